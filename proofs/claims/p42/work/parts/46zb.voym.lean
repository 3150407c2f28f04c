/-! ===== voyages of the model (wip/genvoym.py) ===== -/
theorem stf_Z {sh : List mE} {I : Nat → Nat → Int32} {L : Nat → Nat → Int64} {R : Nat → Nat → Option Nat} {ini a b q : Nat} {x : Int32} {r : List Value} (h0 : sh[q]? = some (.inr a)) (hb : b < (flds a).length) (ht : ((flds a)[b]?.map (fun f => f.2.2.2)) = some .boolean) (hn : ((flds a)[b]?.map (fun f => f.2.2.1)) = some false) (hx : x = 0 ∨ x = 1) : stf (sh, I, L, R) ini a b (.int x :: .ref q :: r) = some (r, (sh, up2 I q b x, L, R)) := by
  obtain ⟨f, hf⟩ : ∃ f, (flds a)[b]? = some f := ⟨_, List.getElem?_eq_getElem hb⟩
  rw [hf] at ht hn
  have h1 : f.2.2.2 = .boolean := Option.some.inj ht
  have h2 : f.2.2.1 = false := Option.some.inj hn
  unfold stf
  simp [h0, hf, h1, h2, hx]
def mdMx : aM := [(94, some 89), (94, some 90), (94, some 91), (150, none), (151, none), (152, none), (153, none), (154, none), (155, none)]
def mdMh : aM := [(94, some 89), (94, some 90), (94, some 91), (154, none), (155, none)]
theorem inm_mx {q k : Nat} (h : inm mdMx q k = false) : inm mdMh q k = false := by
  unfold inm at h ⊢
  rw [List.any_eq_false] at h ⊢
  intro e he
  refine h e ?_
  rcases List.mem_cons.mp he with rfl | he
  · exact List.mem_of_getElem? (i := 0) rfl
  rcases List.mem_cons.mp he with rfl | he
  · exact List.mem_of_getElem? (i := 1) rfl
  rcases List.mem_cons.mp he with rfl | he
  · exact List.mem_of_getElem? (i := 2) rfl
  rcases List.mem_cons.mp he with rfl | he
  · exact List.mem_of_getElem? (i := 7) rfl
  rcases List.mem_singleton.mp he with rfl
  exact List.mem_of_getElem? (i := 8) rfl
def vxM (I : Nat → Nat → Int32) (a : Nat) : yySt := (fun p => (I 150 p).toInt, fun k => if k < a then (I 152 k).toInt else 0, fun k => if k < a then decide (¬ (I 153 k).toInt = 0) else false)
def bsM (I : Nat → Nat → Int32) : Option (Int × List Int) := if (I 94 91).toInt = 0 then none else some ((I 94 90).toInt, rwL I 155 (I 94 89).toInt.toNat)
theorem bsM_congr {I J : Nat → Nat → Int32} (h0 : I 94 91 = J 94 91) (h1 : I 94 90 = J 94 90) (h2 : I 94 89 = J 94 89) (h3 : ∀ k, I 155 k = J 155 k) : bsM I = bsM J := by
  unfold bsM
  rw [h0, h1, h2, rwL_congr (I := I) (J := J) (q := 155) (q' := 155) (fun k _ => h3 k)]
theorem bsM_stay {I : Nat → Nat → Int32} {E b : Int} {l pre : List Int} (h0 : ¬ (I 94 91).toInt = 0) (h : b + E ≤ (I 94 90).toInt) : upY E l b pre (bsM I) = bsM I := by
  unfold bsM
  rw [if_neg h0]
  exact upY_stay h
theorem bsM_put {I : Nat → Nat → Int32} {b : Int} {pre : List Int} (h : (I 94 91).toInt = 0 ∨ (I 94 90).toInt < b) : upY 0 [] b pre (bsM I) = some (b, pre) := by
  have e1 : b + 0 = b := Int.add_zero b
  have e2 : pre ++ [] = pre := List.append_nil pre
  unfold bsM
  by_cases c : (I 94 91).toInt = 0
  · rw [if_pos c, upY_none (by omega), e1, e2]
  · rw [if_neg c, upY_put (by omega) (by dsimp only; omega), e1, e2]
def stM (J : Nat → Nat → Int32) (ma mc : Int32) : Prop := (J 94 79 = ma ∧ J 94 81 = mc) ∧ (1 ≤ ma.toInt ∧ ma.toInt ≤ 3) ∧ (1 ≤ mc.toInt ∧ mc.toInt ≤ 3) ∧ ∀ k : Nat, (k : Int) < ma.toInt → (1 ≤ (J 135 (J 148 k).toNatClampNeg).toInt ∧ (J 135 (J 148 k).toNatClampNeg).toInt ≤ 60) ∧ (1 ≤ (J 136 (J 148 k).toNatClampNeg).toInt ∧ (J 136 (J 148 k).toNatClampNeg).toInt ≤ 30)
def dyM (J I : Nat → Nat → Int32) (ma mc : Int32) (done home : Int32) : Prop := (∀ k : Nat, (k : Int) < ma.toInt → (0 ≤ (I 152 k).toInt ∧ (I 152 k).toInt ≤ 3) ∧ (I 151 k).toInt = 2 * vRow J 136 148 k * (I 152 k).toInt) ∧ (∀ p : Nat, (p : Int) < mc.toInt → 0 ≤ (I 150 p).toInt) ∧ (0 ≤ done.toInt ∧ done.toInt + yyNu (vxM I ma.toInt.toNat) ma.toInt.toNat ≤ 9) ∧ 0 ≤ home.toInt ∧ home.toInt + yyT (vxM I ma.toInt.toNat).1 mc.toInt.toNat ≤ 3000
theorem dyM_c {J I : Nat → Nat → Int32} {ma mc done home : Int32} (h : dyM J I ma mc done home) : ∀ k, 0 ≤ (vxM I ma.toInt.toNat).2.1 k ∧ (vxM I ma.toInt.toNat).2.1 k ≤ 3 := by
  intro k
  by_cases c : k < ma.toInt.toNat
  · have e : (vxM I ma.toInt.toNat).2.1 k = (I 152 k).toInt := if_pos c
    have := (h.1 k (by omega)).1
    rw [e]
    exact this
  · have e : (vxM I ma.toInt.toNat).2.1 k = 0 := if_neg c
    rw [e]
    exact ⟨by omega, by omega⟩
theorem dyM_w {J I : Nat → Nat → Int32} {ma mc done home : Int32} (h : dyM J I ma mc done home) : ∀ p, p < mc.toInt.toNat → 0 ≤ (vxM I ma.toInt.toNat).1 p := fun p hp => h.2.1 p (by omega)
theorem elM_iff {J I : Nat → Nat → Int32} {dd : Int} {a k : Nat} (hk : k < a) (hf : (I 151 k).toInt = 2 * vRow J 136 148 k * (I 152 k).toInt) : yyEl (vRow J 136 148) dd (vxM I a) k = true ↔ (I 153 k).toInt = 0 ∧ (I 152 k).toInt < 3 ∧ (I 151 k).toInt + vRow J 136 148 k ≤ dd := by
  have e : (vxM I a).2.1 k = (I 152 k).toInt := if_pos hk
  have g : (vxM I a).2.2 k = decide (¬ (I 153 k).toInt = 0) := if_pos hk
  constructor
  · intro h
    have h2 := yyEl_of h
    rw [e, g, ← hf] at h2
    refine ⟨?_, h2.2⟩
    have := of_decide_eq_false h2.1
    omega
  · intro h
    unfold yyEl
    rw [Bool.and_eq_true, Bool.and_eq_true, decide_eq_true_eq, decide_eq_true_eq, e, g, ← hf]
    refine ⟨?_, h.2⟩
    rw [decide_eq_false (by omega)]
    rfl
theorem frM_rng {J I : Nat → Nat → Int32} {ma mc done home : Int32} {k : Nat} (hS : stM J ma mc) (hD : dyM J I ma mc done home) (hk : (k : Int) < ma.toInt) : 0 ≤ (I 151 k).toInt ∧ (I 151 k).toInt ≤ 180 := by
  have e := hD.1 k hk
  have hb := (hS.2.2.2 k hk).2
  have hP : vRow J 136 148 k = (J 136 (J 148 k).toNatClampNeg).toInt := vRow_of hb.1
  have a1 := Int.mul_nonneg (a := 2 * vRow J 136 148 k) (b := (I 152 k).toInt) (by omega) (by omega)
  have a2 : 2 * vRow J 136 148 k * (I 152 k).toInt ≤ 60 * 3 := Int.mul_le_mul (by omega) (by omega) (by omega) (by decide)
  omega
theorem dyM_go {J I I2 : Nat → Nat → Int32} {ma mc : Int32} {dd : Int} {done home done' home' : Int32} {s t : Nat} {go : Int} (hS : stM J ma mc) (h : dyM J I ma mc done home) (hs : yyChs ma.toInt.toNat mc.toInt.toNat (vRow J 136 148) dd (vxM I ma.toInt.toNat) = some s) (ht : (t : Int) < mc.toInt) (hg : go = yyBy (vRow J 135 148) (vxM I ma.toInt.toNat) s t) (hw : 0 < (I 150 t).toInt) (e152 : (I2 152 s).toInt = (I 152 s).toInt + 1) (k152 : ∀ k, ¬ k = s → I2 152 k = I 152 k) (e151 : (I2 151 s).toInt = (I 151 s).toInt + 2 * vRow J 136 148 s) (k151 : ∀ k, ¬ k = s → I2 151 k = I 151 k) (e150 : (I2 150 t).toInt = (I 150 t).toInt - go) (k150 : ∀ k, ¬ k = t → I2 150 k = I 150 k) (k153 : ∀ k, I2 153 k = I 153 k) (em : done'.toInt = done.toInt + 1) (eh : home'.toInt = home.toInt + go) : vxM I2 ma.toInt.toNat = yyGo (vxM I ma.toInt.toNat) s t go ∧ dyM J I2 ma mc done' home' := by
  obtain ⟨q1, q2, -⟩ := yyChs_some hs
  obtain ⟨q3, q4, -⟩ := yyEl_of q2
  have ec : (vxM I ma.toInt.toNat).2.1 s = (I 152 s).toInt := if_pos q1
  have ex : vxM I2 ma.toInt.toNat = yyGo (vxM I ma.toInt.toNat) s t go := by
    refine Prod.ext (funext fun i => ?_) (Prod.ext (funext fun i => ?_) (funext fun i => ?_))
    · show (I2 150 i).toInt = (if i = t then (I 150 i).toInt - go else (I 150 i).toInt)
      by_cases c : i = t
      · rw [if_pos c, c, e150]
      · rw [if_neg c, k150 i c]
    · show (if i < ma.toInt.toNat then (I2 152 i).toInt else 0) = (if i = s then (if i < ma.toInt.toNat then (I 152 i).toInt else 0) + 1 else (if i < ma.toInt.toNat then (I 152 i).toInt else 0))
      by_cases c : i = s
      · rw [if_pos c, if_pos (by omega), if_pos (by omega), c, e152]
      · rw [if_neg c, k152 i c]
    · show (if i < ma.toInt.toNat then decide (¬ (I2 153 i).toInt = 0) else false) = (if i < ma.toInt.toNat then decide (¬ (I 153 i).toInt = 0) else false)
      rw [k153 i]
  have by1 := yyBy_rng (B := vRow J 135 148) (x := vxM I ma.toInt.toNat) (s := s) (p := t) vRow_ge hw
  rw [← hg] at by1
  have by2 : go ≤ (I 150 t).toInt := by1.2
  have eT : yyT (yyGo (vxM I ma.toInt.toNat) s t go).1 mc.toInt.toNat = yyT (vxM I ma.toInt.toNat).1 mc.toInt.toNat - go := yyT_go (by omega)
  have h5 := h.2.2.2
  have h3 := h.2.2.1
  refine ⟨ex, fun k hk => ?_, fun p hp => ?_, ⟨by omega, ?_⟩, by omega, ?_⟩
  · have hk1 := h.1 k hk
    by_cases c : k = s
    · rw [c] at hk1 ⊢
      rw [e152, e151, Int.mul_add, Int.mul_one, hk1.2]
      exact ⟨by omega, rfl⟩
    · rw [k152 k c, k151 k c]
      exact hk1
  · have hp1 := h.2.1 p hp
    by_cases c : p = t
    · rw [c, e150]
      omega
    · rw [k150 p c]
      exact hp1
  · have := yyNu_go (p := t) (y := go) q3 q1
    rw [ex]
    have := h.2.2.1.2
    omega
  · rw [ex, eT]
    omega
theorem dyM_rs {J I I2 : Nat → Nat → Int32} {ma mc : Int32} {dd : Int} {done home done' : Int32} {s : Nat} (h : dyM J I ma mc done home) (hs : yyChs ma.toInt.toNat mc.toInt.toNat (vRow J 136 148) dd (vxM I ma.toInt.toNat) = some s) (e153 : I2 153 s = 1) (k153 : ∀ k, ¬ k = s → I2 153 k = I 153 k) (k150 : ∀ k, I2 150 k = I 150 k) (k151 : ∀ k, I2 151 k = I 151 k) (k152 : ∀ k, I2 152 k = I 152 k) (em : done'.toInt = done.toInt + 1) : vxM I2 ma.toInt.toNat = yyRs (vxM I ma.toInt.toNat) s ∧ dyM J I2 ma mc done' home := by
  obtain ⟨q1, q2, -⟩ := yyChs_some hs
  obtain ⟨q3, q4, -⟩ := yyEl_of q2
  have ex : vxM I2 ma.toInt.toNat = yyRs (vxM I ma.toInt.toNat) s := by
    refine Prod.ext (funext fun i => ?_) (Prod.ext (funext fun i => ?_) (funext fun i => ?_))
    · show (I2 150 i).toInt = (I 150 i).toInt
      rw [k150]
    · show (if i < ma.toInt.toNat then (I2 152 i).toInt else 0) = (if i < ma.toInt.toNat then (I 152 i).toInt else 0)
      rw [k152]
    · show (if i < ma.toInt.toNat then decide (¬ (I2 153 i).toInt = 0) else false) = (if i = s then true else (if i < ma.toInt.toNat then decide (¬ (I 153 i).toInt = 0) else false))
      by_cases c : i = s
      · rw [if_pos c, if_pos (by omega), c, e153]
        rfl
      · rw [if_neg c, k153 i c]
  refine ⟨ex, fun k hk => ?_, fun p hp => ?_, ⟨by have := h.2.2.1; omega, ?_⟩, h.2.2.2.1, ?_⟩
  · rw [k152, k151]
    exact h.1 k hk
  · rw [k150]
    exact h.2.1 p hp
  · have := yyNu_rs q3 q4 q1
    rw [ex]
    have := h.2.2.1.2
    omega
  · rw [ex]
    exact h.2.2.2.2
def QMh (sh : List mE) (R : Nat → Nat → Option Nat) (J : Nat → Nat → Int32) (dd : Int) (a c : Nat) (I : Nat → Nat → Int32) (done home : Int32) (r : Option Value) (w' : mW) : Prop := r = none ∧ fresh w' ∧ wOK (mkT vV []) (wE sh R) w' ∧ (∀ q k, inm mdMh q k = false → w'.2.1 q k = I q k) ∧ (∀ k, k < done.toInt.toNat → w'.2.1 154 k = I 154 k) ∧ bsM w'.2.1 = upY (yyW a c (vRow J 135 148) (vRow J 136 148) dd (vxM I a)) (yyL a c (vRow J 135 148) (vRow J 136 148) dd (vxM I a)) home.toInt (rwL I 154 done.toInt.toNat) (bsM I)
theorem chB_lp {d : Nat} {sh : List mE} {I : Nat → Nat → Int32} {L : Nat → Nat → Int64} {R : Nat → Nat → Option Nat} {J : Nat → Nat → Int32} {ma mc dv b done home : Int32} (hw : wOK (mkT vV []) (wE sh R) (sh, I, L, R)) (hS : stM J ma mc) (hkp : ∀ q k, inm mdMx q k = false → I q k = J q k) (hD : dyM J I ma mc done home) (hb1 : b.toInt = 0 ∨ b.toInt = 1) (hb2 : b.toInt = 1 ↔ yySome (vxM I ma.toInt.toNat).1 mc.toInt.toNat = true) : ∀ (z : Nat) (k f : Int32), 0 ≤ k.toInt → k.toInt ≤ ma.toInt → ma.toInt - k.toInt < z → (b.toInt = 0 → f.toInt = -1) → chO f (yyCh (yyEl (vRow J 136 148) dv.toInt (vxM I ma.toInt.toNat)) (fun k => 2 * (vRow J 136 148) k * (vxM I ma.toInt.toNat).2.1 k) k.toInt.toNat) → XW 336 mr_336 none d 0 0 (fun r w' => (∃ y : Int32, r = some (.int y) ∧ chO y (yyChs ma.toInt.toNat mc.toInt.toNat (vRow J 136 148) dv.toInt (vxM I ma.toInt.toNat))) ∧ w' = (sh, I, L, R)) (42, [(4, .int k), (3, .int f), (2, .int b), (1, .int dv), (0, .ref 94)], [], (sh, I, L, R)) := by
  have c94 : sh[94]? = some (.inr 12) := hw.1 94 _ rfl
  have c136 : sh[136]? = some (.inl (.int, 16)) := hw.1 136 _ rfl
  have c148 : sh[148]? = some (.inl (.int, 3)) := hw.1 148 _ rfl
  have c151 : sh[151]? = some (.inl (.int, 3)) := hw.1 151 _ rfl
  have c152 : sh[152]? = some (.inl (.int, 3)) := hw.1 152 _ rfl
  have c153 : sh[153]? = some (.inl (.boolean, 3)) := hw.1 153 _ rfl
  have r94_62 : R 94 62 = some 136 := hw.2.1 94 62 _ rfl
  have r94_80 : R 94 80 = some 148 := hw.2.1 94 80 _ rfl
  have r94_84 : R 94 84 = some 151 := hw.2.1 94 84 _ rfl
  have r94_85 : R 94 85 = some 152 := hw.2.1 94 85 _ rfl
  have r94_86 : R 94 86 = some 153 := hw.2.1 94 86 _ rfl
  have z0 : (0 : Int32).toInt = 0 := rfl
  have z3 : (3 : Int32).toInt = 3 := rfl
  have em : I 94 79 = ma := (hkp 94 79 rfl).trans hS.1.1
  have ha := hS.2.1
  intro z
  induction z with
  | zero =>
    intro k f h1 h2 hz
    exfalso
    omega
  | succ z ih =>
    intro k f h1 h2 hz hb0 hc
    have hcl := chO_lt hc
    obtain ⟨fk, efk⟩ : ∃ z : Int32, I 151 (k).toNatClampNeg = z := ⟨_, rfl⟩
    obtain ⟨svk, esvk⟩ : ∃ z : Int32, I 148 (k).toNatClampNeg = z := ⟨_, rfl⟩
    obtain ⟨pk, epk⟩ : ∃ z : Int32, I 136 (svk).toNatClampNeg = z := ⟨_, rfl⟩
    refine XW.fam (S' := (44, [(4, .int k), (3, .int f), (2, .int b), (1, .int dv), (0, .ref 94)], [.int k], (sh, I, L, R))) (M := mr_336) rfl (show mcode 336 42 = some (42, .iload 4, 2, 0, 0, 0, _) from rfl) (Or.inl ⟨.int k, rfl, rfl⟩) ?_
    refine XW.fam (S' := (45, [(4, .int k), (3, .int f), (2, .int b), (1, .int dv), (0, .ref 94)], [.ref 94, .int k], (sh, I, L, R))) (M := mr_336) rfl (show mcode 336 44 = some (44, .aload_n 0, 1, 0, 0, 0, _) from rfl) (Or.inl ⟨.ref 94, rfl, rfl⟩) ?_
    refine XW.fam (S' := (48, [(4, .int k), (3, .int f), (2, .int b), (1, .int dv), (0, .ref 94)], [.int (I 94 79), .int k], (sh, I, L, R))) (M := mr_336) rfl (show mcode 336 45 = some (45, .getfield 551, 3, 12, 79, 0, _) from rfl) (Or.inr (Or.inr (Or.inr (Or.inr (Or.inr (Or.inr (Or.inr (Or.inl ⟨_, _, rfl, fl_ldI c94 (by decide) (by decide), rfl⟩)))))))) ?_
    rw [em]
    cases k1 : bcmp .ge k ma with
    | true =>
      have gk1 : (ma).toInt ≤ (k).toInt := icT (c := .ge) (a := (k).toInt) (b := (ma).toInt) rfl rfl k1
      refine XW.fam (S' := (129, [(4, .int k), (3, .int f), (2, .int b), (1, .int dv), (0, .ref 94)], [], (sh, I, L, R))) (M := mr_336) rfl (show mcode 336 48 = some (48, .if_icmp .ge 81, 3, 129, 0, 0, _) from rfl) (Or.inr (Or.inl ⟨129, [], by simp [brn, k1], rfl⟩)) ?_
      refine XW.fam (S' := (130, [(4, .int k), (3, .int f), (2, .int b), (1, .int dv), (0, .ref 94)], [.int f], (sh, I, L, R))) (M := mr_336) rfl (show mcode 336 129 = some (129, .iload_n 3, 1, 0, 0, 0, _) from rfl) (Or.inl ⟨.int f, rfl, rfl⟩) ?_
      refine XW.ret (r := some (.int f)) ⟨⟨.int, rfl, rfl⟩, by decide +kernel⟩ ?_
      refine ⟨⟨f, rfl, ?_⟩, rfl⟩
      unfold yyChs
      by_cases g0 : b.toInt = 0
      · rw [if_neg (fun q => by have := hb2.mpr q; omega)]
        exact Or.inl ⟨rfl, hb0 g0⟩
      · rw [if_pos (hb2.mp (by omega))]
        have ek : k.toInt.toNat = ma.toInt.toNat := by omega
        rw [ek] at hc
        exact hc
    | false =>
      have gk1 : ¬ ((ma).toInt ≤ (k).toInt) := icF (c := .ge) (a := (k).toInt) (b := (ma).toInt) rfl rfl k1
      refine XW.fam (S' := (51, [(4, .int k), (3, .int f), (2, .int b), (1, .int dv), (0, .ref 94)], [], (sh, I, L, R))) (M := mr_336) rfl (show mcode 336 48 = some (48, .if_icmp .ge 81, 3, 129, 0, 0, _) from rfl) (Or.inr (Or.inl ⟨51, [], by simp [brn, k1], rfl⟩)) ?_
      have kn : (k).toNatClampNeg = k.toInt.toNat := rfl
      have fn : (f).toNatClampNeg = f.toInt.toNat := rfl
      have dk := hD.1 (k).toNatClampNeg (by omega)
      have dfk := hD.1 (f).toNatClampNeg (by omega)
      have hbk := hS.2.2.2 (k).toNatClampNeg (by omega)
      have hfk := frM_rng hS hD (k := (k).toNatClampNeg) (by omega)
      rw [efk] at hfk
      have hpk : pk.toInt = vRow J 136 148 (k).toNatClampNeg := by
        rw [← epk, ← esvk, hkp 148 _ rfl, hkp 136 _ rfl]
        exact (vRow_of hbk.2.1).symm
      have hPk : vRow J 136 148 (k).toNatClampNeg = (J 136 (J 148 (k).toNatClampNeg).toNatClampNeg).toInt := vRow_of hbk.2.1
      have es := sumS (a := fk) (b := pk) (by omega) (by omega)
      have hE := elM_iff (J := J) (I := I) (dd := dv.toInt) (a := ma.toInt.toNat) (k := (k).toNatClampNeg) (by omega) dk.2
      rw [efk, ← hpk] at hE
      have x1 : (vxM I ma.toInt.toNat).2.1 (k).toNatClampNeg = (I 152 (k).toNatClampNeg).toInt := if_pos (by omega)
      have x2 : (vxM I ma.toInt.toNat).2.1 (f).toNatClampNeg = (I 152 (f).toNatClampNeg).toInt := if_pos (by omega)
      have hF1 : 2 * vRow J 136 148 (k).toNatClampNeg * (vxM I ma.toInt.toNat).2.1 (k).toNatClampNeg = fk.toInt := by rw [x1, ← dk.2, efk]
      have hF2 : 2 * vRow J 136 148 (f).toNatClampNeg * (vxM I ma.toInt.toNat).2.1 (f).toNatClampNeg = (I 151 (f).toNatClampNeg).toInt := by rw [x2, ← dfk.2]
      refine XW.fam (S' := (52, [(4, .int k), (3, .int f), (2, .int b), (1, .int dv), (0, .ref 94)], [.int b], (sh, I, L, R))) (M := mr_336) rfl (show mcode 336 51 = some (51, .iload_n 2, 1, 0, 0, 0, _) from rfl) (Or.inl ⟨.int b, rfl, rfl⟩) ?_
      cases k2 : bcmp .eq b 0 with
      | true =>
        have gk2 : (b).toInt = 0 := icT (c := .eq) (a := (b).toInt) (b := 0) rfl (by decide) k2
        refine XW.fam (S' := (129, [(4, .int k), (3, .int f), (2, .int b), (1, .int dv), (0, .ref 94)], [], (sh, I, L, R))) (M := mr_336) rfl (show mcode 336 52 = some (52, .ifCond .eq 77, 3, 129, 0, 0, _) from rfl) (Or.inr (Or.inl ⟨129, [], by simp [brn, k2], rfl⟩)) ?_
        refine XW.fam (S' := (130, [(4, .int k), (3, .int f), (2, .int b), (1, .int dv), (0, .ref 94)], [.int f], (sh, I, L, R))) (M := mr_336) rfl (show mcode 336 129 = some (129, .iload_n 3, 1, 0, 0, 0, _) from rfl) (Or.inl ⟨.int f, rfl, rfl⟩) ?_
        refine XW.ret (r := some (.int f)) ⟨⟨.int, rfl, rfl⟩, by decide +kernel⟩ ?_
        refine ⟨⟨f, rfl, ?_⟩, rfl⟩
        unfold yyChs
        by_cases g0 : b.toInt = 0
        · rw [if_neg (fun q => by have := hb2.mpr q; omega)]
          exact Or.inl ⟨rfl, hb0 g0⟩
        · rw [if_pos (hb2.mp (by omega))]
          have ek : k.toInt.toNat = ma.toInt.toNat := by omega
          rw [ek] at hc
          exact hc
      | false =>
        have gk2 : ¬ ((b).toInt = 0) := icF (c := .eq) (a := (b).toInt) (b := 0) rfl (by decide) k2
        refine XW.fam (S' := (55, [(4, .int k), (3, .int f), (2, .int b), (1, .int dv), (0, .ref 94)], [], (sh, I, L, R))) (M := mr_336) rfl (show mcode 336 52 = some (52, .ifCond .eq 77, 3, 129, 0, 0, _) from rfl) (Or.inr (Or.inl ⟨55, [], by simp [brn, k2], rfl⟩)) ?_
        refine XW.fam (S' := (56, [(4, .int k), (3, .int f), (2, .int b), (1, .int dv), (0, .ref 94)], [.ref 94], (sh, I, L, R))) (M := mr_336) rfl (show mcode 336 55 = some (55, .aload_n 0, 1, 0, 0, 0, _) from rfl) (Or.inl ⟨.ref 94, rfl, rfl⟩) ?_
        refine XW.fam (S' := (59, [(4, .int k), (3, .int f), (2, .int b), (1, .int dv), (0, .ref 94)], [.ref 153], (sh, I, L, R))) (M := mr_336) rfl (show mcode 336 56 = some (56, .getfield 193, 3, 12, 86, 0, _) from rfl) (Or.inr (Or.inr (Or.inr (Or.inr (Or.inr (Or.inr (Or.inr (Or.inl ⟨_, _, rfl, fl_ld c94 r94_86 (by decide) (by decide), rfl⟩)))))))) ?_
        refine XW.fam (S' := (61, [(4, .int k), (3, .int f), (2, .int b), (1, .int dv), (0, .ref 94)], [.int k, .ref 153], (sh, I, L, R))) (M := mr_336) rfl (show mcode 336 59 = some (59, .iload 4, 2, 0, 0, 0, _) from rfl) (Or.inl ⟨.int k, rfl, rfl⟩) ?_
        have hin3 : inR k 3 = true := inR_of (by omega) (by omega)
        refine XW.fam (S' := (62, [(4, .int k), (3, .int f), (2, .int b), (1, .int dv), (0, .ref 94)], [.int (I 153 (k).toNatClampNeg)], (sh, I, L, R))) (M := mr_336) rfl (show mcode 336 61 = some (61, .baload, 1, 0, 0, 0, _) from rfl) (Or.inr (Or.inr (Or.inl ⟨_, lda_z c153 hin3, rfl⟩))) ?_
        cases k4 : bcmp .ne (I 153 (k).toNatClampNeg) 0 with
        | true =>
          have gk4 : ¬ ((I 153 (k).toNatClampNeg)).toInt = 0 := icT (c := .ne) (a := ((I 153 (k).toNatClampNeg)).toInt) (b := 0) rfl (by decide) k4
          refine XW.fam (S' := (123, [(4, .int k), (3, .int f), (2, .int b), (1, .int dv), (0, .ref 94)], [], (sh, I, L, R))) (M := mr_336) rfl (show mcode 336 62 = some (62, .ifCond .ne 61, 3, 123, 0, 0, _) from rfl) (Or.inr (Or.inl ⟨123, [], by simp [brn, k4], rfl⟩)) ?_
          refine XW.fam (S' := (126, [(4, .int (k + Int32.ofInt 1)), (3, .int f), (2, .int b), (1, .int dv), (0, .ref 94)], [], (sh, I, L, R))) (M := mr_336) rfl (show mcode 336 123 = some (123, .iinc 4 1, 3, 0, 0, 0, _) from rfl) (Or.inr (Or.inr (Or.inr (Or.inr (Or.inr (Or.inr (Or.inr (Or.inr (Or.inr ⟨4, 1, k, rfl, rfl, by decide, rfl⟩))))))))) ?_
          refine XW.fam (S' := (42, [(4, .int (k + Int32.ofInt 1)), (3, .int f), (2, .int b), (1, .int dv), (0, .ref 94)], [], (sh, I, L, R))) (M := mr_336) rfl (show mcode 336 126 = some (126, .goto (-84), 3, 42, 0, 0, _) from rfl) (Or.inr (Or.inl ⟨42, [], rfl, rfl⟩)) ?_
          have eo := incO (m := k) (by omega) (by omega)
          have en : (k + Int32.ofInt 1).toInt.toNat = k.toInt.toNat + 1 := by omega
          refine XW.sub (ls' := [(4, .int (k + Int32.ofInt 1)), (3, .int f), (2, .int b), (1, .int dv), (0, .ref 94)]) (List.forall_mem_cons.mpr ⟨List.mem_of_getElem? (i := 0) rfl, (List.forall_mem_cons.mpr ⟨List.mem_of_getElem? (i := 1) rfl, (List.forall_mem_cons.mpr ⟨List.mem_of_getElem? (i := 2) rfl, (List.forall_mem_cons.mpr ⟨List.mem_of_getElem? (i := 3) rfl, (List.forall_mem_cons.mpr ⟨List.mem_of_getElem? (i := 4) rfl, (fun _ h => absurd h List.not_mem_nil)⟩)⟩)⟩)⟩)⟩) ?_
          refine ih (k + Int32.ofInt 1) f (by omega) (by omega) (by omega) (fun g0 => absurd g0 (by omega)) ?_
          rw [en]
          first
            | exact chO_skip hc (fun q => by have q1 := hE.mp q; omega)
            | exact chO_keep hc (by omega) (by show ¬ 2 * vRow J 136 148 (k).toNatClampNeg * (vxM I ma.toInt.toNat).2.1 (k).toNatClampNeg < 2 * vRow J 136 148 (f).toNatClampNeg * (vxM I ma.toInt.toNat).2.1 (f).toNatClampNeg; rw [hF1, hF2]; omega)
        | false =>
          have gk4 : ¬ (¬ ((I 153 (k).toNatClampNeg)).toInt = 0) := icF (c := .ne) (a := ((I 153 (k).toNatClampNeg)).toInt) (b := 0) rfl (by decide) k4
          refine XW.fam (S' := (65, [(4, .int k), (3, .int f), (2, .int b), (1, .int dv), (0, .ref 94)], [], (sh, I, L, R))) (M := mr_336) rfl (show mcode 336 62 = some (62, .ifCond .ne 61, 3, 123, 0, 0, _) from rfl) (Or.inr (Or.inl ⟨65, [], by simp [brn, k4], rfl⟩)) ?_
          refine XW.fam (S' := (66, [(4, .int k), (3, .int f), (2, .int b), (1, .int dv), (0, .ref 94)], [.ref 94], (sh, I, L, R))) (M := mr_336) rfl (show mcode 336 65 = some (65, .aload_n 0, 1, 0, 0, 0, _) from rfl) (Or.inl ⟨.ref 94, rfl, rfl⟩) ?_
          refine XW.fam (S' := (69, [(4, .int k), (3, .int f), (2, .int b), (1, .int dv), (0, .ref 94)], [.ref 152], (sh, I, L, R))) (M := mr_336) rfl (show mcode 336 66 = some (66, .getfield 190, 3, 12, 85, 0, _) from rfl) (Or.inr (Or.inr (Or.inr (Or.inr (Or.inr (Or.inr (Or.inr (Or.inl ⟨_, _, rfl, fl_ld c94 r94_85 (by decide) (by decide), rfl⟩)))))))) ?_
          refine XW.fam (S' := (71, [(4, .int k), (3, .int f), (2, .int b), (1, .int dv), (0, .ref 94)], [.int k, .ref 152], (sh, I, L, R))) (M := mr_336) rfl (show mcode 336 69 = some (69, .iload 4, 2, 0, 0, 0, _) from rfl) (Or.inl ⟨.int k, rfl, rfl⟩) ?_
          have hin5 : inR k 3 = true := inR_of (by omega) (by omega)
          refine XW.fam (S' := (72, [(4, .int k), (3, .int f), (2, .int b), (1, .int dv), (0, .ref 94)], [.int (I 152 (k).toNatClampNeg)], (sh, I, L, R))) (M := mr_336) rfl (show mcode 336 71 = some (71, .iaload, 1, 0, 0, 0, _) from rfl) (Or.inr (Or.inr (Or.inl ⟨_, lda_i c152 hin5, rfl⟩))) ?_
          refine XW.fam (S' := (73, [(4, .int k), (3, .int f), (2, .int b), (1, .int dv), (0, .ref 94)], [.int 3, .int (I 152 (k).toNatClampNeg)], (sh, I, L, R))) (M := mr_336) rfl (show mcode 336 72 = some (72, .iconst 3, 1, 0, 0, 0, _) from rfl) (Or.inl ⟨.int 3, rfl, rfl⟩) ?_
          cases k6 : bcmp .ge (I 152 (k).toNatClampNeg) 3 with
          | true =>
            have gk6 : 3 ≤ ((I 152 (k).toNatClampNeg)).toInt := icT (c := .ge) (a := ((I 152 (k).toNatClampNeg)).toInt) (b := 3) rfl (by decide) k6
            refine XW.fam (S' := (123, [(4, .int k), (3, .int f), (2, .int b), (1, .int dv), (0, .ref 94)], [], (sh, I, L, R))) (M := mr_336) rfl (show mcode 336 73 = some (73, .if_icmp .ge 50, 3, 123, 0, 0, _) from rfl) (Or.inr (Or.inl ⟨123, [], by simp [brn, k6], rfl⟩)) ?_
            refine XW.fam (S' := (126, [(4, .int (k + Int32.ofInt 1)), (3, .int f), (2, .int b), (1, .int dv), (0, .ref 94)], [], (sh, I, L, R))) (M := mr_336) rfl (show mcode 336 123 = some (123, .iinc 4 1, 3, 0, 0, 0, _) from rfl) (Or.inr (Or.inr (Or.inr (Or.inr (Or.inr (Or.inr (Or.inr (Or.inr (Or.inr ⟨4, 1, k, rfl, rfl, by decide, rfl⟩))))))))) ?_
            refine XW.fam (S' := (42, [(4, .int (k + Int32.ofInt 1)), (3, .int f), (2, .int b), (1, .int dv), (0, .ref 94)], [], (sh, I, L, R))) (M := mr_336) rfl (show mcode 336 126 = some (126, .goto (-84), 3, 42, 0, 0, _) from rfl) (Or.inr (Or.inl ⟨42, [], rfl, rfl⟩)) ?_
            have eo := incO (m := k) (by omega) (by omega)
            have en : (k + Int32.ofInt 1).toInt.toNat = k.toInt.toNat + 1 := by omega
            refine XW.sub (ls' := [(4, .int (k + Int32.ofInt 1)), (3, .int f), (2, .int b), (1, .int dv), (0, .ref 94)]) (List.forall_mem_cons.mpr ⟨List.mem_of_getElem? (i := 0) rfl, (List.forall_mem_cons.mpr ⟨List.mem_of_getElem? (i := 1) rfl, (List.forall_mem_cons.mpr ⟨List.mem_of_getElem? (i := 2) rfl, (List.forall_mem_cons.mpr ⟨List.mem_of_getElem? (i := 3) rfl, (List.forall_mem_cons.mpr ⟨List.mem_of_getElem? (i := 4) rfl, (fun _ h => absurd h List.not_mem_nil)⟩)⟩)⟩)⟩)⟩) ?_
            refine ih (k + Int32.ofInt 1) f (by omega) (by omega) (by omega) (fun g0 => absurd g0 (by omega)) ?_
            rw [en]
            first
              | exact chO_skip hc (fun q => by have q1 := hE.mp q; omega)
              | exact chO_keep hc (by omega) (by show ¬ 2 * vRow J 136 148 (k).toNatClampNeg * (vxM I ma.toInt.toNat).2.1 (k).toNatClampNeg < 2 * vRow J 136 148 (f).toNatClampNeg * (vxM I ma.toInt.toNat).2.1 (f).toNatClampNeg; rw [hF1, hF2]; omega)
          | false =>
            have gk6 : ¬ (3 ≤ ((I 152 (k).toNatClampNeg)).toInt) := icF (c := .ge) (a := ((I 152 (k).toNatClampNeg)).toInt) (b := 3) rfl (by decide) k6
            refine XW.fam (S' := (76, [(4, .int k), (3, .int f), (2, .int b), (1, .int dv), (0, .ref 94)], [], (sh, I, L, R))) (M := mr_336) rfl (show mcode 336 73 = some (73, .if_icmp .ge 50, 3, 123, 0, 0, _) from rfl) (Or.inr (Or.inl ⟨76, [], by simp [brn, k6], rfl⟩)) ?_
            refine XW.fam (S' := (77, [(4, .int k), (3, .int f), (2, .int b), (1, .int dv), (0, .ref 94)], [.ref 94], (sh, I, L, R))) (M := mr_336) rfl (show mcode 336 76 = some (76, .aload_n 0, 1, 0, 0, 0, _) from rfl) (Or.inl ⟨.ref 94, rfl, rfl⟩) ?_
            refine XW.fam (S' := (80, [(4, .int k), (3, .int f), (2, .int b), (1, .int dv), (0, .ref 94)], [.ref 151], (sh, I, L, R))) (M := mr_336) rfl (show mcode 336 77 = some (77, .getfield 187, 3, 12, 84, 0, _) from rfl) (Or.inr (Or.inr (Or.inr (Or.inr (Or.inr (Or.inr (Or.inr (Or.inl ⟨_, _, rfl, fl_ld c94 r94_84 (by decide) (by decide), rfl⟩)))))))) ?_
            refine XW.fam (S' := (82, [(4, .int k), (3, .int f), (2, .int b), (1, .int dv), (0, .ref 94)], [.int k, .ref 151], (sh, I, L, R))) (M := mr_336) rfl (show mcode 336 80 = some (80, .iload 4, 2, 0, 0, 0, _) from rfl) (Or.inl ⟨.int k, rfl, rfl⟩) ?_
            have hin7 : inR k 3 = true := inR_of (by omega) (by omega)
            refine XW.fam (S' := (83, [(4, .int k), (3, .int f), (2, .int b), (1, .int dv), (0, .ref 94)], [.int (I 151 (k).toNatClampNeg)], (sh, I, L, R))) (M := mr_336) rfl (show mcode 336 82 = some (82, .iaload, 1, 0, 0, 0, _) from rfl) (Or.inr (Or.inr (Or.inl ⟨_, lda_i c151 hin7, rfl⟩))) ?_
            rw [efk]
            refine XW.fam (S' := (84, [(4, .int k), (3, .int f), (2, .int b), (1, .int dv), (0, .ref 94)], [.ref 94, .int fk], (sh, I, L, R))) (M := mr_336) rfl (show mcode 336 83 = some (83, .aload_n 0, 1, 0, 0, 0, _) from rfl) (Or.inl ⟨.ref 94, rfl, rfl⟩) ?_
            refine XW.fam (S' := (87, [(4, .int k), (3, .int f), (2, .int b), (1, .int dv), (0, .ref 94)], [.ref 136, .int fk], (sh, I, L, R))) (M := mr_336) rfl (show mcode 336 84 = some (84, .getfield 139, 3, 12, 62, 0, _) from rfl) (Or.inr (Or.inr (Or.inr (Or.inr (Or.inr (Or.inr (Or.inr (Or.inl ⟨_, _, rfl, fl_ld c94 r94_62 (by decide) (by decide), rfl⟩)))))))) ?_
            refine XW.fam (S' := (88, [(4, .int k), (3, .int f), (2, .int b), (1, .int dv), (0, .ref 94)], [.ref 94, .ref 136, .int fk], (sh, I, L, R))) (M := mr_336) rfl (show mcode 336 87 = some (87, .aload_n 0, 1, 0, 0, 0, _) from rfl) (Or.inl ⟨.ref 94, rfl, rfl⟩) ?_
            refine XW.fam (S' := (91, [(4, .int k), (3, .int f), (2, .int b), (1, .int dv), (0, .ref 94)], [.ref 148, .ref 136, .int fk], (sh, I, L, R))) (M := mr_336) rfl (show mcode 336 88 = some (88, .getfield 178, 3, 12, 80, 0, _) from rfl) (Or.inr (Or.inr (Or.inr (Or.inr (Or.inr (Or.inr (Or.inr (Or.inl ⟨_, _, rfl, fl_ld c94 r94_80 (by decide) (by decide), rfl⟩)))))))) ?_
            refine XW.fam (S' := (93, [(4, .int k), (3, .int f), (2, .int b), (1, .int dv), (0, .ref 94)], [.int k, .ref 148, .ref 136, .int fk], (sh, I, L, R))) (M := mr_336) rfl (show mcode 336 91 = some (91, .iload 4, 2, 0, 0, 0, _) from rfl) (Or.inl ⟨.int k, rfl, rfl⟩) ?_
            have hin8 : inR k 3 = true := inR_of (by omega) (by omega)
            refine XW.fam (S' := (94, [(4, .int k), (3, .int f), (2, .int b), (1, .int dv), (0, .ref 94)], [.int (I 148 (k).toNatClampNeg), .ref 136, .int fk], (sh, I, L, R))) (M := mr_336) rfl (show mcode 336 93 = some (93, .iaload, 1, 0, 0, 0, _) from rfl) (Or.inr (Or.inr (Or.inl ⟨_, lda_i c148 hin8, rfl⟩))) ?_
            rw [esvk]
            have h148 : 0 ≤ (svk).toInt ∧ (svk).toInt ≤ 15 := by rw [← esvk]; exact hw.2.2.1 148 _
            have hin9 : inR svk 16 = true := inR_of (by omega) (by omega)
            refine XW.fam (S' := (95, [(4, .int k), (3, .int f), (2, .int b), (1, .int dv), (0, .ref 94)], [.int (I 136 (svk).toNatClampNeg), .int fk], (sh, I, L, R))) (M := mr_336) rfl (show mcode 336 94 = some (94, .iaload, 1, 0, 0, 0, _) from rfl) (Or.inr (Or.inr (Or.inl ⟨_, lda_i c136 hin9, rfl⟩))) ?_
            rw [epk]
            refine XW.fam (S' := (96, [(4, .int k), (3, .int f), (2, .int b), (1, .int dv), (0, .ref 94)], [.int (fk + pk)], (sh, I, L, R))) (M := mr_336) rfl (show mcode 336 95 = some (95, .iadd, 1, 0, 0, 0, _) from rfl) (Or.inr (Or.inr (Or.inr (Or.inr (Or.inr (Or.inl ⟨_, rfl, rfl⟩)))))) ?_
            refine XW.fam (S' := (97, [(4, .int k), (3, .int f), (2, .int b), (1, .int dv), (0, .ref 94)], [.int dv, .int (fk + pk)], (sh, I, L, R))) (M := mr_336) rfl (show mcode 336 96 = some (96, .iload_n 1, 1, 0, 0, 0, _) from rfl) (Or.inl ⟨.int dv, rfl, rfl⟩) ?_
            cases k10 : bcmp .gt (fk + pk) dv with
            | true =>
              have gk10 : (dv).toInt < ((fk + pk)).toInt := icT (c := .gt) (a := ((fk + pk)).toInt) (b := (dv).toInt) rfl rfl k10
              refine XW.fam (S' := (123, [(4, .int k), (3, .int f), (2, .int b), (1, .int dv), (0, .ref 94)], [], (sh, I, L, R))) (M := mr_336) rfl (show mcode 336 97 = some (97, .if_icmp .gt 26, 3, 123, 0, 0, _) from rfl) (Or.inr (Or.inl ⟨123, [], by simp [brn, k10], rfl⟩)) ?_
              refine XW.fam (S' := (126, [(4, .int (k + Int32.ofInt 1)), (3, .int f), (2, .int b), (1, .int dv), (0, .ref 94)], [], (sh, I, L, R))) (M := mr_336) rfl (show mcode 336 123 = some (123, .iinc 4 1, 3, 0, 0, 0, _) from rfl) (Or.inr (Or.inr (Or.inr (Or.inr (Or.inr (Or.inr (Or.inr (Or.inr (Or.inr ⟨4, 1, k, rfl, rfl, by decide, rfl⟩))))))))) ?_
              refine XW.fam (S' := (42, [(4, .int (k + Int32.ofInt 1)), (3, .int f), (2, .int b), (1, .int dv), (0, .ref 94)], [], (sh, I, L, R))) (M := mr_336) rfl (show mcode 336 126 = some (126, .goto (-84), 3, 42, 0, 0, _) from rfl) (Or.inr (Or.inl ⟨42, [], rfl, rfl⟩)) ?_
              have eo := incO (m := k) (by omega) (by omega)
              have en : (k + Int32.ofInt 1).toInt.toNat = k.toInt.toNat + 1 := by omega
              refine XW.sub (ls' := [(4, .int (k + Int32.ofInt 1)), (3, .int f), (2, .int b), (1, .int dv), (0, .ref 94)]) (List.forall_mem_cons.mpr ⟨List.mem_of_getElem? (i := 0) rfl, (List.forall_mem_cons.mpr ⟨List.mem_of_getElem? (i := 1) rfl, (List.forall_mem_cons.mpr ⟨List.mem_of_getElem? (i := 2) rfl, (List.forall_mem_cons.mpr ⟨List.mem_of_getElem? (i := 3) rfl, (List.forall_mem_cons.mpr ⟨List.mem_of_getElem? (i := 4) rfl, (fun _ h => absurd h List.not_mem_nil)⟩)⟩)⟩)⟩)⟩) ?_
              refine ih (k + Int32.ofInt 1) f (by omega) (by omega) (by omega) (fun g0 => absurd g0 (by omega)) ?_
              rw [en]
              first
                | exact chO_skip hc (fun q => by have q1 := hE.mp q; omega)
                | exact chO_keep hc (by omega) (by show ¬ 2 * vRow J 136 148 (k).toNatClampNeg * (vxM I ma.toInt.toNat).2.1 (k).toNatClampNeg < 2 * vRow J 136 148 (f).toNatClampNeg * (vxM I ma.toInt.toNat).2.1 (f).toNatClampNeg; rw [hF1, hF2]; omega)
            | false =>
              have gk10 : ¬ ((dv).toInt < ((fk + pk)).toInt) := icF (c := .gt) (a := ((fk + pk)).toInt) (b := (dv).toInt) rfl rfl k10
              refine XW.fam (S' := (100, [(4, .int k), (3, .int f), (2, .int b), (1, .int dv), (0, .ref 94)], [], (sh, I, L, R))) (M := mr_336) rfl (show mcode 336 97 = some (97, .if_icmp .gt 26, 3, 123, 0, 0, _) from rfl) (Or.inr (Or.inl ⟨100, [], by simp [brn, k10], rfl⟩)) ?_
              refine XW.fam (S' := (101, [(4, .int k), (3, .int f), (2, .int b), (1, .int dv), (0, .ref 94)], [.int f], (sh, I, L, R))) (M := mr_336) rfl (show mcode 336 100 = some (100, .iload_n 3, 1, 0, 0, 0, _) from rfl) (Or.inl ⟨.int f, rfl, rfl⟩) ?_
              cases k11 : bcmp .lt f 0 with
              | true =>
                have gk11 : (f).toInt < 0 := icT (c := .lt) (a := (f).toInt) (b := 0) rfl (by decide) k11
                refine XW.fam (S' := (120, [(4, .int k), (3, .int f), (2, .int b), (1, .int dv), (0, .ref 94)], [], (sh, I, L, R))) (M := mr_336) rfl (show mcode 336 101 = some (101, .ifCond .lt 19, 3, 120, 0, 0, _) from rfl) (Or.inr (Or.inl ⟨120, [], by simp [brn, k11], rfl⟩)) ?_
                refine XW.fam (S' := (122, [(4, .int k), (3, .int f), (2, .int b), (1, .int dv), (0, .ref 94)], [.int k], (sh, I, L, R))) (M := mr_336) rfl (show mcode 336 120 = some (120, .iload 4, 2, 0, 0, 0, _) from rfl) (Or.inl ⟨.int k, rfl, rfl⟩) ?_
                refine XW.fam (S' := (123, [(3, .int k), (4, .int k), (2, .int b), (1, .int dv), (0, .ref 94)], [], (sh, I, L, R))) (M := mr_336) rfl (show mcode 336 122 = some (122, .istore_n 3, 1, 0, 0, 0, _) from rfl) (Or.inr (Or.inr (Or.inr (Or.inr (Or.inr (Or.inr (Or.inl ⟨_, [], _, rfl, rfl, rfl⟩))))))) ?_
                refine XW.fam (S' := (126, [(4, .int (k + Int32.ofInt 1)), (3, .int k), (2, .int b), (1, .int dv), (0, .ref 94)], [], (sh, I, L, R))) (M := mr_336) rfl (show mcode 336 123 = some (123, .iinc 4 1, 3, 0, 0, 0, _) from rfl) (Or.inr (Or.inr (Or.inr (Or.inr (Or.inr (Or.inr (Or.inr (Or.inr (Or.inr ⟨4, 1, k, rfl, rfl, by decide, rfl⟩))))))))) ?_
                refine XW.fam (S' := (42, [(4, .int (k + Int32.ofInt 1)), (3, .int k), (2, .int b), (1, .int dv), (0, .ref 94)], [], (sh, I, L, R))) (M := mr_336) rfl (show mcode 336 126 = some (126, .goto (-84), 3, 42, 0, 0, _) from rfl) (Or.inr (Or.inl ⟨42, [], rfl, rfl⟩)) ?_
                have eo := incO (m := k) (by omega) (by omega)
                have en : (k + Int32.ofInt 1).toInt.toNat = k.toInt.toNat + 1 := by omega
                refine XW.sub (ls' := [(4, .int (k + Int32.ofInt 1)), (3, .int k), (2, .int b), (1, .int dv), (0, .ref 94)]) (List.forall_mem_cons.mpr ⟨List.mem_of_getElem? (i := 0) rfl, (List.forall_mem_cons.mpr ⟨List.mem_of_getElem? (i := 1) rfl, (List.forall_mem_cons.mpr ⟨List.mem_of_getElem? (i := 2) rfl, (List.forall_mem_cons.mpr ⟨List.mem_of_getElem? (i := 3) rfl, (List.forall_mem_cons.mpr ⟨List.mem_of_getElem? (i := 4) rfl, (fun _ h => absurd h List.not_mem_nil)⟩)⟩)⟩)⟩)⟩) ?_
                refine ih (k + Int32.ofInt 1) k (by omega) (by omega) (by omega) (fun g0 => absurd g0 (by omega)) ?_
                rw [en]
                first
                  | exact chO_new hc (hE.mpr (by omega)) (by omega) (by omega)
                  | exact chO_less hc (hE.mpr (by omega)) (by omega) (by show 2 * vRow J 136 148 (k).toNatClampNeg * (vxM I ma.toInt.toNat).2.1 (k).toNatClampNeg < 2 * vRow J 136 148 (f).toNatClampNeg * (vxM I ma.toInt.toNat).2.1 (f).toNatClampNeg; rw [hF1, hF2]; omega) (by omega)
              | false =>
                have gk11 : ¬ ((f).toInt < 0) := icF (c := .lt) (a := (f).toInt) (b := 0) rfl (by decide) k11
                refine XW.fam (S' := (104, [(4, .int k), (3, .int f), (2, .int b), (1, .int dv), (0, .ref 94)], [], (sh, I, L, R))) (M := mr_336) rfl (show mcode 336 101 = some (101, .ifCond .lt 19, 3, 120, 0, 0, _) from rfl) (Or.inr (Or.inl ⟨104, [], by simp [brn, k11], rfl⟩)) ?_
                refine XW.fam (S' := (105, [(4, .int k), (3, .int f), (2, .int b), (1, .int dv), (0, .ref 94)], [.ref 94], (sh, I, L, R))) (M := mr_336) rfl (show mcode 336 104 = some (104, .aload_n 0, 1, 0, 0, 0, _) from rfl) (Or.inl ⟨.ref 94, rfl, rfl⟩) ?_
                refine XW.fam (S' := (108, [(4, .int k), (3, .int f), (2, .int b), (1, .int dv), (0, .ref 94)], [.ref 151], (sh, I, L, R))) (M := mr_336) rfl (show mcode 336 105 = some (105, .getfield 187, 3, 12, 84, 0, _) from rfl) (Or.inr (Or.inr (Or.inr (Or.inr (Or.inr (Or.inr (Or.inr (Or.inl ⟨_, _, rfl, fl_ld c94 r94_84 (by decide) (by decide), rfl⟩)))))))) ?_
                refine XW.fam (S' := (110, [(4, .int k), (3, .int f), (2, .int b), (1, .int dv), (0, .ref 94)], [.int k, .ref 151], (sh, I, L, R))) (M := mr_336) rfl (show mcode 336 108 = some (108, .iload 4, 2, 0, 0, 0, _) from rfl) (Or.inl ⟨.int k, rfl, rfl⟩) ?_
                have hin12 : inR k 3 = true := inR_of (by omega) (by omega)
                refine XW.fam (S' := (111, [(4, .int k), (3, .int f), (2, .int b), (1, .int dv), (0, .ref 94)], [.int (I 151 (k).toNatClampNeg)], (sh, I, L, R))) (M := mr_336) rfl (show mcode 336 110 = some (110, .iaload, 1, 0, 0, 0, _) from rfl) (Or.inr (Or.inr (Or.inl ⟨_, lda_i c151 hin12, rfl⟩))) ?_
                rw [efk]
                refine XW.fam (S' := (112, [(4, .int k), (3, .int f), (2, .int b), (1, .int dv), (0, .ref 94)], [.ref 94, .int fk], (sh, I, L, R))) (M := mr_336) rfl (show mcode 336 111 = some (111, .aload_n 0, 1, 0, 0, 0, _) from rfl) (Or.inl ⟨.ref 94, rfl, rfl⟩) ?_
                refine XW.fam (S' := (115, [(4, .int k), (3, .int f), (2, .int b), (1, .int dv), (0, .ref 94)], [.ref 151, .int fk], (sh, I, L, R))) (M := mr_336) rfl (show mcode 336 112 = some (112, .getfield 187, 3, 12, 84, 0, _) from rfl) (Or.inr (Or.inr (Or.inr (Or.inr (Or.inr (Or.inr (Or.inr (Or.inl ⟨_, _, rfl, fl_ld c94 r94_84 (by decide) (by decide), rfl⟩)))))))) ?_
                refine XW.fam (S' := (116, [(4, .int k), (3, .int f), (2, .int b), (1, .int dv), (0, .ref 94)], [.int f, .ref 151, .int fk], (sh, I, L, R))) (M := mr_336) rfl (show mcode 336 115 = some (115, .iload_n 3, 1, 0, 0, 0, _) from rfl) (Or.inl ⟨.int f, rfl, rfl⟩) ?_
                have hin13 : inR f 3 = true := inR_of (by omega) (by omega)
                refine XW.fam (S' := (117, [(4, .int k), (3, .int f), (2, .int b), (1, .int dv), (0, .ref 94)], [.int (I 151 (f).toNatClampNeg), .int fk], (sh, I, L, R))) (M := mr_336) rfl (show mcode 336 116 = some (116, .iaload, 1, 0, 0, 0, _) from rfl) (Or.inr (Or.inr (Or.inl ⟨_, lda_i c151 hin13, rfl⟩))) ?_
                cases k14 : bcmp .ge fk (I 151 (f).toNatClampNeg) with
                | true =>
                  have gk14 : ((I 151 (f).toNatClampNeg)).toInt ≤ (fk).toInt := icT (c := .ge) (a := (fk).toInt) (b := ((I 151 (f).toNatClampNeg)).toInt) rfl rfl k14
                  refine XW.fam (S' := (123, [(4, .int k), (3, .int f), (2, .int b), (1, .int dv), (0, .ref 94)], [], (sh, I, L, R))) (M := mr_336) rfl (show mcode 336 117 = some (117, .if_icmp .ge 6, 3, 123, 0, 0, _) from rfl) (Or.inr (Or.inl ⟨123, [], by simp [brn, k14], rfl⟩)) ?_
                  refine XW.fam (S' := (126, [(4, .int (k + Int32.ofInt 1)), (3, .int f), (2, .int b), (1, .int dv), (0, .ref 94)], [], (sh, I, L, R))) (M := mr_336) rfl (show mcode 336 123 = some (123, .iinc 4 1, 3, 0, 0, 0, _) from rfl) (Or.inr (Or.inr (Or.inr (Or.inr (Or.inr (Or.inr (Or.inr (Or.inr (Or.inr ⟨4, 1, k, rfl, rfl, by decide, rfl⟩))))))))) ?_
                  refine XW.fam (S' := (42, [(4, .int (k + Int32.ofInt 1)), (3, .int f), (2, .int b), (1, .int dv), (0, .ref 94)], [], (sh, I, L, R))) (M := mr_336) rfl (show mcode 336 126 = some (126, .goto (-84), 3, 42, 0, 0, _) from rfl) (Or.inr (Or.inl ⟨42, [], rfl, rfl⟩)) ?_
                  have eo := incO (m := k) (by omega) (by omega)
                  have en : (k + Int32.ofInt 1).toInt.toNat = k.toInt.toNat + 1 := by omega
                  refine XW.sub (ls' := [(4, .int (k + Int32.ofInt 1)), (3, .int f), (2, .int b), (1, .int dv), (0, .ref 94)]) (List.forall_mem_cons.mpr ⟨List.mem_of_getElem? (i := 0) rfl, (List.forall_mem_cons.mpr ⟨List.mem_of_getElem? (i := 1) rfl, (List.forall_mem_cons.mpr ⟨List.mem_of_getElem? (i := 2) rfl, (List.forall_mem_cons.mpr ⟨List.mem_of_getElem? (i := 3) rfl, (List.forall_mem_cons.mpr ⟨List.mem_of_getElem? (i := 4) rfl, (fun _ h => absurd h List.not_mem_nil)⟩)⟩)⟩)⟩)⟩) ?_
                  refine ih (k + Int32.ofInt 1) f (by omega) (by omega) (by omega) (fun g0 => absurd g0 (by omega)) ?_
                  rw [en]
                  first
                    | exact chO_skip hc (fun q => by have q1 := hE.mp q; omega)
                    | exact chO_keep hc (by omega) (by show ¬ 2 * vRow J 136 148 (k).toNatClampNeg * (vxM I ma.toInt.toNat).2.1 (k).toNatClampNeg < 2 * vRow J 136 148 (f).toNatClampNeg * (vxM I ma.toInt.toNat).2.1 (f).toNatClampNeg; rw [hF1, hF2]; omega)
                | false =>
                  have gk14 : ¬ (((I 151 (f).toNatClampNeg)).toInt ≤ (fk).toInt) := icF (c := .ge) (a := (fk).toInt) (b := ((I 151 (f).toNatClampNeg)).toInt) rfl rfl k14
                  refine XW.fam (S' := (120, [(4, .int k), (3, .int f), (2, .int b), (1, .int dv), (0, .ref 94)], [], (sh, I, L, R))) (M := mr_336) rfl (show mcode 336 117 = some (117, .if_icmp .ge 6, 3, 123, 0, 0, _) from rfl) (Or.inr (Or.inl ⟨120, [], by simp [brn, k14], rfl⟩)) ?_
                  refine XW.fam (S' := (122, [(4, .int k), (3, .int f), (2, .int b), (1, .int dv), (0, .ref 94)], [.int k], (sh, I, L, R))) (M := mr_336) rfl (show mcode 336 120 = some (120, .iload 4, 2, 0, 0, 0, _) from rfl) (Or.inl ⟨.int k, rfl, rfl⟩) ?_
                  refine XW.fam (S' := (123, [(3, .int k), (4, .int k), (2, .int b), (1, .int dv), (0, .ref 94)], [], (sh, I, L, R))) (M := mr_336) rfl (show mcode 336 122 = some (122, .istore_n 3, 1, 0, 0, 0, _) from rfl) (Or.inr (Or.inr (Or.inr (Or.inr (Or.inr (Or.inr (Or.inl ⟨_, [], _, rfl, rfl, rfl⟩))))))) ?_
                  refine XW.fam (S' := (126, [(4, .int (k + Int32.ofInt 1)), (3, .int k), (2, .int b), (1, .int dv), (0, .ref 94)], [], (sh, I, L, R))) (M := mr_336) rfl (show mcode 336 123 = some (123, .iinc 4 1, 3, 0, 0, 0, _) from rfl) (Or.inr (Or.inr (Or.inr (Or.inr (Or.inr (Or.inr (Or.inr (Or.inr (Or.inr ⟨4, 1, k, rfl, rfl, by decide, rfl⟩))))))))) ?_
                  refine XW.fam (S' := (42, [(4, .int (k + Int32.ofInt 1)), (3, .int k), (2, .int b), (1, .int dv), (0, .ref 94)], [], (sh, I, L, R))) (M := mr_336) rfl (show mcode 336 126 = some (126, .goto (-84), 3, 42, 0, 0, _) from rfl) (Or.inr (Or.inl ⟨42, [], rfl, rfl⟩)) ?_
                  have eo := incO (m := k) (by omega) (by omega)
                  have en : (k + Int32.ofInt 1).toInt.toNat = k.toInt.toNat + 1 := by omega
                  refine XW.sub (ls' := [(4, .int (k + Int32.ofInt 1)), (3, .int k), (2, .int b), (1, .int dv), (0, .ref 94)]) (List.forall_mem_cons.mpr ⟨List.mem_of_getElem? (i := 0) rfl, (List.forall_mem_cons.mpr ⟨List.mem_of_getElem? (i := 1) rfl, (List.forall_mem_cons.mpr ⟨List.mem_of_getElem? (i := 2) rfl, (List.forall_mem_cons.mpr ⟨List.mem_of_getElem? (i := 3) rfl, (List.forall_mem_cons.mpr ⟨List.mem_of_getElem? (i := 4) rfl, (fun _ h => absurd h List.not_mem_nil)⟩)⟩)⟩)⟩)⟩) ?_
                  refine ih (k + Int32.ofInt 1) k (by omega) (by omega) (by omega) (fun g0 => absurd g0 (by omega)) ?_
                  rw [en]
                  first
                    | exact chO_new hc (hE.mpr (by omega)) (by omega) (by omega)
                    | exact chO_less hc (hE.mpr (by omega)) (by omega) (by show 2 * vRow J 136 148 (k).toNatClampNeg * (vxM I ma.toInt.toNat).2.1 (k).toNatClampNeg < 2 * vRow J 136 148 (f).toNatClampNeg * (vxM I ma.toInt.toNat).2.1 (f).toNatClampNeg; rw [hF1, hF2]; omega) (by omega)
theorem chA_lp {d : Nat} {sh : List mE} {I : Nat → Nat → Int32} {L : Nat → Nat → Int64} {R : Nat → Nat → Option Nat} {J : Nat → Nat → Int32} {ma mc dv done home : Int32} {Q : Option Value → mW → Prop} (hw : wOK (mkT vV []) (wE sh R) (sh, I, L, R)) (hS : stM J ma mc) (hkp : ∀ q k, inm mdMx q k = false → I q k = J q k) (hD : dyM J I ma mc done home) (K : ∀ {b : Int32}, (b.toInt = 0 ∨ b.toInt = 1) → (b.toInt = 1 ↔ yySome (vxM I ma.toInt.toNat).1 mc.toInt.toNat = true) → ∀ k : Int32, XW 336 mr_336 none d 0 0 Q (37, [(3, .int k), (2, .int b), (1, .int dv), (0, .ref 94)], [], (sh, I, L, R))) : ∀ (z : Nat) (k b : Int32), 0 ≤ k.toInt → k.toInt ≤ mc.toInt → mc.toInt - k.toInt < z → (b.toInt = 0 ∨ b.toInt = 1) → (b.toInt = 1 ↔ yySome (vxM I ma.toInt.toNat).1 k.toInt.toNat = true) → XW 336 mr_336 none d 0 0 Q (4, [(3, .int k), (2, .int b), (1, .int dv), (0, .ref 94)], [], (sh, I, L, R)) := by
  have c94 : sh[94]? = some (.inr 12) := hw.1 94 _ rfl
  have c150 : sh[150]? = some (.inl (.int, 3)) := hw.1 150 _ rfl
  have r94_83 : R 94 83 = some 150 := hw.2.1 94 83 _ rfl
  have z0 : (0 : Int32).toInt = 0 := rfl
  have z1 : (1 : Int32).toInt = 1 := rfl
  have em : I 94 81 = mc := (hkp 94 81 rfl).trans hS.1.2
  have hc' := hS.2.2.1
  intro z
  induction z with
  | zero =>
    intro k b h1 h2 hz
    exfalso
    omega
  | succ z ih =>
    intro k b h1 h2 hz hb1 hb2
    refine XW.fam (S' := (5, [(3, .int k), (2, .int b), (1, .int dv), (0, .ref 94)], [.int k], (sh, I, L, R))) (M := mr_336) rfl (show mcode 336 4 = some (4, .iload_n 3, 1, 0, 0, 0, _) from rfl) (Or.inl ⟨.int k, rfl, rfl⟩) ?_
    refine XW.fam (S' := (6, [(3, .int k), (2, .int b), (1, .int dv), (0, .ref 94)], [.ref 94, .int k], (sh, I, L, R))) (M := mr_336) rfl (show mcode 336 5 = some (5, .aload_n 0, 1, 0, 0, 0, _) from rfl) (Or.inl ⟨.ref 94, rfl, rfl⟩) ?_
    refine XW.fam (S' := (9, [(3, .int k), (2, .int b), (1, .int dv), (0, .ref 94)], [.int (I 94 81), .int k], (sh, I, L, R))) (M := mr_336) rfl (show mcode 336 6 = some (6, .getfield 554, 3, 12, 81, 0, _) from rfl) (Or.inr (Or.inr (Or.inr (Or.inr (Or.inr (Or.inr (Or.inr (Or.inl ⟨_, _, rfl, fl_ldI c94 (by decide) (by decide), rfl⟩)))))))) ?_
    rw [em]
    cases k1 : bcmp .ge k mc with
    | true =>
      have gk1 : (mc).toInt ≤ (k).toInt := icT (c := .ge) (a := (k).toInt) (b := (mc).toInt) rfl rfl k1
      refine XW.fam (S' := (37, [(3, .int k), (2, .int b), (1, .int dv), (0, .ref 94)], [], (sh, I, L, R))) (M := mr_336) rfl (show mcode 336 9 = some (9, .if_icmp .ge 28, 3, 37, 0, 0, _) from rfl) (Or.inr (Or.inl ⟨37, [], by simp [brn, k1], rfl⟩)) ?_
      have ek : k.toInt.toNat = mc.toInt.toNat := by omega
      rw [ek] at hb2
      exact K hb1 hb2 k
    | false =>
      have gk1 : ¬ ((mc).toInt ≤ (k).toInt) := icF (c := .ge) (a := (k).toInt) (b := (mc).toInt) rfl rfl k1
      refine XW.fam (S' := (12, [(3, .int k), (2, .int b), (1, .int dv), (0, .ref 94)], [], (sh, I, L, R))) (M := mr_336) rfl (show mcode 336 9 = some (9, .if_icmp .ge 28, 3, 37, 0, 0, _) from rfl) (Or.inr (Or.inl ⟨12, [], by simp [brn, k1], rfl⟩)) ?_
      refine XW.fam (S' := (13, [(3, .int k), (2, .int b), (1, .int dv), (0, .ref 94)], [.int b], (sh, I, L, R))) (M := mr_336) rfl (show mcode 336 12 = some (12, .iload_n 2, 1, 0, 0, 0, _) from rfl) (Or.inl ⟨.int b, rfl, rfl⟩) ?_
      cases k2 : bcmp .ne b 0 with
      | true =>
        have gk2 : ¬ (b).toInt = 0 := icT (c := .ne) (a := (b).toInt) (b := 0) rfl (by decide) k2
        refine XW.fam (S' := (25, [(3, .int k), (2, .int b), (1, .int dv), (0, .ref 94)], [], (sh, I, L, R))) (M := mr_336) rfl (show mcode 336 13 = some (13, .ifCond .ne 12, 3, 25, 0, 0, _) from rfl) (Or.inr (Or.inl ⟨25, [], by simp [brn, k2], rfl⟩)) ?_
        refine XW.fam (S' := (26, [(3, .int k), (2, .int b), (1, .int dv), (0, .ref 94)], [.int 1], (sh, I, L, R))) (M := mr_336) rfl (show mcode 336 25 = some (25, .iconst 1, 1, 0, 0, 0, _) from rfl) (Or.inl ⟨.int 1, rfl, rfl⟩) ?_
        refine XW.fam (S' := (30, [(3, .int k), (2, .int b), (1, .int dv), (0, .ref 94)], [.int 1], (sh, I, L, R))) (M := mr_336) rfl (show mcode 336 26 = some (26, .goto 4, 3, 30, 0, 0, _) from rfl) (Or.inr (Or.inl ⟨30, [.int 1], rfl, rfl⟩)) ?_
        refine XW.fam (S' := (31, [(2, .int 1), (3, .int k), (1, .int dv), (0, .ref 94)], [], (sh, I, L, R))) (M := mr_336) rfl (show mcode 336 30 = some (30, .istore_n 2, 1, 0, 0, 0, _) from rfl) (Or.inr (Or.inr (Or.inr (Or.inr (Or.inr (Or.inr (Or.inl ⟨_, [], _, rfl, rfl, rfl⟩))))))) ?_
        refine XW.fam (S' := (34, [(3, .int (k + Int32.ofInt 1)), (2, .int 1), (1, .int dv), (0, .ref 94)], [], (sh, I, L, R))) (M := mr_336) rfl (show mcode 336 31 = some (31, .iinc 3 1, 3, 0, 0, 0, _) from rfl) (Or.inr (Or.inr (Or.inr (Or.inr (Or.inr (Or.inr (Or.inr (Or.inr (Or.inr ⟨3, 1, k, rfl, rfl, by decide, rfl⟩))))))))) ?_
        refine XW.fam (S' := (4, [(3, .int (k + Int32.ofInt 1)), (2, .int 1), (1, .int dv), (0, .ref 94)], [], (sh, I, L, R))) (M := mr_336) rfl (show mcode 336 34 = some (34, .goto (-30), 3, 4, 0, 0, _) from rfl) (Or.inr (Or.inl ⟨4, [], rfl, rfl⟩)) ?_
        have eo := incO (m := k) (by omega) (by omega)
        have en : (k + Int32.ofInt 1).toInt.toNat = k.toInt.toNat + 1 := by omega
        have eS : yySome (vxM I ma.toInt.toNat).1 (k.toInt.toNat + 1) = (yySome (vxM I ma.toInt.toNat).1 k.toInt.toNat || decide (0 < (I 150 (k).toNatClampNeg).toInt)) := rfl
        refine XW.sub (ls' := [(3, .int (k + Int32.ofInt 1)), (2, .int 1), (1, .int dv), (0, .ref 94)]) (List.forall_mem_cons.mpr ⟨List.mem_of_getElem? (i := 0) rfl, (List.forall_mem_cons.mpr ⟨List.mem_of_getElem? (i := 1) rfl, (List.forall_mem_cons.mpr ⟨List.mem_of_getElem? (i := 2) rfl, (List.forall_mem_cons.mpr ⟨List.mem_of_getElem? (i := 3) rfl, (fun _ h => absurd h List.not_mem_nil)⟩)⟩)⟩)⟩) ?_
        refine ih (k + Int32.ofInt 1) 1 (by omega) (by omega) (by omega) (Or.inr rfl) ?_
        rw [en, eS, Bool.or_eq_true, decide_eq_true_eq]
        refine ⟨fun _ => ?_, fun _ => rfl⟩
        first
          | exact Or.inl (hb2.mp (by omega))
          | exact Or.inr (by omega)
      | false =>
        have gk2 : ¬ (¬ (b).toInt = 0) := icF (c := .ne) (a := (b).toInt) (b := 0) rfl (by decide) k2
        refine XW.fam (S' := (16, [(3, .int k), (2, .int b), (1, .int dv), (0, .ref 94)], [], (sh, I, L, R))) (M := mr_336) rfl (show mcode 336 13 = some (13, .ifCond .ne 12, 3, 25, 0, 0, _) from rfl) (Or.inr (Or.inl ⟨16, [], by simp [brn, k2], rfl⟩)) ?_
        refine XW.fam (S' := (17, [(3, .int k), (2, .int b), (1, .int dv), (0, .ref 94)], [.ref 94], (sh, I, L, R))) (M := mr_336) rfl (show mcode 336 16 = some (16, .aload_n 0, 1, 0, 0, 0, _) from rfl) (Or.inl ⟨.ref 94, rfl, rfl⟩) ?_
        refine XW.fam (S' := (20, [(3, .int k), (2, .int b), (1, .int dv), (0, .ref 94)], [.ref 150], (sh, I, L, R))) (M := mr_336) rfl (show mcode 336 17 = some (17, .getfield 184, 3, 12, 83, 0, _) from rfl) (Or.inr (Or.inr (Or.inr (Or.inr (Or.inr (Or.inr (Or.inr (Or.inl ⟨_, _, rfl, fl_ld c94 r94_83 (by decide) (by decide), rfl⟩)))))))) ?_
        refine XW.fam (S' := (21, [(3, .int k), (2, .int b), (1, .int dv), (0, .ref 94)], [.int k, .ref 150], (sh, I, L, R))) (M := mr_336) rfl (show mcode 336 20 = some (20, .iload_n 3, 1, 0, 0, 0, _) from rfl) (Or.inl ⟨.int k, rfl, rfl⟩) ?_
        have hin3 : inR k 3 = true := inR_of (by omega) (by omega)
        refine XW.fam (S' := (22, [(3, .int k), (2, .int b), (1, .int dv), (0, .ref 94)], [.int (I 150 (k).toNatClampNeg)], (sh, I, L, R))) (M := mr_336) rfl (show mcode 336 21 = some (21, .iaload, 1, 0, 0, 0, _) from rfl) (Or.inr (Or.inr (Or.inl ⟨_, lda_i c150 hin3, rfl⟩))) ?_
        cases k4 : bcmp .le (I 150 (k).toNatClampNeg) 0 with
        | true =>
          have gk4 : ((I 150 (k).toNatClampNeg)).toInt ≤ 0 := icT (c := .le) (a := ((I 150 (k).toNatClampNeg)).toInt) (b := 0) rfl (by decide) k4
          refine XW.fam (S' := (29, [(3, .int k), (2, .int b), (1, .int dv), (0, .ref 94)], [], (sh, I, L, R))) (M := mr_336) rfl (show mcode 336 22 = some (22, .ifCond .le 7, 3, 29, 0, 0, _) from rfl) (Or.inr (Or.inl ⟨29, [], by simp [brn, k4], rfl⟩)) ?_
          refine XW.fam (S' := (30, [(3, .int k), (2, .int b), (1, .int dv), (0, .ref 94)], [.int 0], (sh, I, L, R))) (M := mr_336) rfl (show mcode 336 29 = some (29, .iconst 0, 1, 0, 0, 0, _) from rfl) (Or.inl ⟨.int 0, rfl, rfl⟩) ?_
          refine XW.fam (S' := (31, [(2, .int 0), (3, .int k), (1, .int dv), (0, .ref 94)], [], (sh, I, L, R))) (M := mr_336) rfl (show mcode 336 30 = some (30, .istore_n 2, 1, 0, 0, 0, _) from rfl) (Or.inr (Or.inr (Or.inr (Or.inr (Or.inr (Or.inr (Or.inl ⟨_, [], _, rfl, rfl, rfl⟩))))))) ?_
          refine XW.fam (S' := (34, [(3, .int (k + Int32.ofInt 1)), (2, .int 0), (1, .int dv), (0, .ref 94)], [], (sh, I, L, R))) (M := mr_336) rfl (show mcode 336 31 = some (31, .iinc 3 1, 3, 0, 0, 0, _) from rfl) (Or.inr (Or.inr (Or.inr (Or.inr (Or.inr (Or.inr (Or.inr (Or.inr (Or.inr ⟨3, 1, k, rfl, rfl, by decide, rfl⟩))))))))) ?_
          refine XW.fam (S' := (4, [(3, .int (k + Int32.ofInt 1)), (2, .int 0), (1, .int dv), (0, .ref 94)], [], (sh, I, L, R))) (M := mr_336) rfl (show mcode 336 34 = some (34, .goto (-30), 3, 4, 0, 0, _) from rfl) (Or.inr (Or.inl ⟨4, [], rfl, rfl⟩)) ?_
          have eo := incO (m := k) (by omega) (by omega)
          have en : (k + Int32.ofInt 1).toInt.toNat = k.toInt.toNat + 1 := by omega
          have eS : yySome (vxM I ma.toInt.toNat).1 (k.toInt.toNat + 1) = (yySome (vxM I ma.toInt.toNat).1 k.toInt.toNat || decide (0 < (I 150 (k).toNatClampNeg).toInt)) := rfl
          refine XW.sub (ls' := [(3, .int (k + Int32.ofInt 1)), (2, .int 0), (1, .int dv), (0, .ref 94)]) (List.forall_mem_cons.mpr ⟨List.mem_of_getElem? (i := 0) rfl, (List.forall_mem_cons.mpr ⟨List.mem_of_getElem? (i := 1) rfl, (List.forall_mem_cons.mpr ⟨List.mem_of_getElem? (i := 2) rfl, (List.forall_mem_cons.mpr ⟨List.mem_of_getElem? (i := 3) rfl, (fun _ h => absurd h List.not_mem_nil)⟩)⟩)⟩)⟩) ?_
          refine ih (k + Int32.ofInt 1) 0 (by omega) (by omega) (by omega) (Or.inl rfl) ?_
          rw [en, eS, Bool.or_eq_true, decide_eq_true_eq]
          refine ⟨fun q => absurd q (by decide), fun q => ?_⟩
          exfalso
          rcases q with q | q
          · have := hb2.mpr q
            omega
          · omega
        | false =>
          have gk4 : ¬ (((I 150 (k).toNatClampNeg)).toInt ≤ 0) := icF (c := .le) (a := ((I 150 (k).toNatClampNeg)).toInt) (b := 0) rfl (by decide) k4
          refine XW.fam (S' := (25, [(3, .int k), (2, .int b), (1, .int dv), (0, .ref 94)], [], (sh, I, L, R))) (M := mr_336) rfl (show mcode 336 22 = some (22, .ifCond .le 7, 3, 29, 0, 0, _) from rfl) (Or.inr (Or.inl ⟨25, [], by simp [brn, k4], rfl⟩)) ?_
          refine XW.fam (S' := (26, [(3, .int k), (2, .int b), (1, .int dv), (0, .ref 94)], [.int 1], (sh, I, L, R))) (M := mr_336) rfl (show mcode 336 25 = some (25, .iconst 1, 1, 0, 0, 0, _) from rfl) (Or.inl ⟨.int 1, rfl, rfl⟩) ?_
          refine XW.fam (S' := (30, [(3, .int k), (2, .int b), (1, .int dv), (0, .ref 94)], [.int 1], (sh, I, L, R))) (M := mr_336) rfl (show mcode 336 26 = some (26, .goto 4, 3, 30, 0, 0, _) from rfl) (Or.inr (Or.inl ⟨30, [.int 1], rfl, rfl⟩)) ?_
          refine XW.fam (S' := (31, [(2, .int 1), (3, .int k), (1, .int dv), (0, .ref 94)], [], (sh, I, L, R))) (M := mr_336) rfl (show mcode 336 30 = some (30, .istore_n 2, 1, 0, 0, 0, _) from rfl) (Or.inr (Or.inr (Or.inr (Or.inr (Or.inr (Or.inr (Or.inl ⟨_, [], _, rfl, rfl, rfl⟩))))))) ?_
          refine XW.fam (S' := (34, [(3, .int (k + Int32.ofInt 1)), (2, .int 1), (1, .int dv), (0, .ref 94)], [], (sh, I, L, R))) (M := mr_336) rfl (show mcode 336 31 = some (31, .iinc 3 1, 3, 0, 0, 0, _) from rfl) (Or.inr (Or.inr (Or.inr (Or.inr (Or.inr (Or.inr (Or.inr (Or.inr (Or.inr ⟨3, 1, k, rfl, rfl, by decide, rfl⟩))))))))) ?_
          refine XW.fam (S' := (4, [(3, .int (k + Int32.ofInt 1)), (2, .int 1), (1, .int dv), (0, .ref 94)], [], (sh, I, L, R))) (M := mr_336) rfl (show mcode 336 34 = some (34, .goto (-30), 3, 4, 0, 0, _) from rfl) (Or.inr (Or.inl ⟨4, [], rfl, rfl⟩)) ?_
          have eo := incO (m := k) (by omega) (by omega)
          have en : (k + Int32.ofInt 1).toInt.toNat = k.toInt.toNat + 1 := by omega
          have eS : yySome (vxM I ma.toInt.toNat).1 (k.toInt.toNat + 1) = (yySome (vxM I ma.toInt.toNat).1 k.toInt.toNat || decide (0 < (I 150 (k).toNatClampNeg).toInt)) := rfl
          refine XW.sub (ls' := [(3, .int (k + Int32.ofInt 1)), (2, .int 1), (1, .int dv), (0, .ref 94)]) (List.forall_mem_cons.mpr ⟨List.mem_of_getElem? (i := 0) rfl, (List.forall_mem_cons.mpr ⟨List.mem_of_getElem? (i := 1) rfl, (List.forall_mem_cons.mpr ⟨List.mem_of_getElem? (i := 2) rfl, (List.forall_mem_cons.mpr ⟨List.mem_of_getElem? (i := 3) rfl, (fun _ h => absurd h List.not_mem_nil)⟩)⟩)⟩)⟩) ?_
          refine ih (k + Int32.ofInt 1) 1 (by omega) (by omega) (by omega) (Or.inr rfl) ?_
          rw [en, eS, Bool.or_eq_true, decide_eq_true_eq]
          refine ⟨fun _ => ?_, fun _ => rfl⟩
          first
            | exact Or.inl (hb2.mp (by omega))
            | exact Or.inr (by omega)
theorem tc_chooser {d : Nat} {sh : List mE} {I : Nat → Nat → Int32} {L : Nat → Nat → Int64} {R : Nat → Nat → Option Nat} {J : Nat → Nat → Int32} {ma mc dv done home : Int32} (hw : wOK (mkT vV []) (wE sh R) (sh, I, L, R)) (hS : stM J ma mc) (hkp : ∀ q k, inm mdMx q k = false → I q k = J q k) (hD : dyM J I ma mc done home) : Tc 336 d 0 0 [.ref 94, .int dv] (sh, I, L, R) (fun r w' => (∃ y : Int32, r = some (.int y) ∧ chO y (yyChs ma.toInt.toNat mc.toInt.toNat (vRow J 136 148) dv.toInt (vxM I ma.toInt.toNat))) ∧ w' = (sh, I, L, R)) := by
  have zm1 : ((-1) : Int32).toInt = (-1) := rfl
  have z0 : (0 : Int32).toInt = 0 := rfl
  refine Tc.of mr_336 rfl (show 2 ≤ mr_336.2.2.2.1 by decide) ?_
  refine XW.fam (S' := (1, [(0, .ref 94), (1, .int dv)], [.int 0], (sh, I, L, R))) (M := mr_336) rfl (show mcode 336 0 = some (0, .iconst 0, 1, 0, 0, 0, _) from rfl) (Or.inl ⟨.int 0, rfl, rfl⟩) ?_
  refine XW.fam (S' := (2, [(2, .int 0), (0, .ref 94), (1, .int dv)], [], (sh, I, L, R))) (M := mr_336) rfl (show mcode 336 1 = some (1, .istore_n 2, 1, 0, 0, 0, _) from rfl) (Or.inr (Or.inr (Or.inr (Or.inr (Or.inr (Or.inr (Or.inl ⟨_, [], _, rfl, rfl, rfl⟩))))))) ?_
  refine XW.fam (S' := (3, [(2, .int 0), (0, .ref 94), (1, .int dv)], [.int 0], (sh, I, L, R))) (M := mr_336) rfl (show mcode 336 2 = some (2, .iconst 0, 1, 0, 0, 0, _) from rfl) (Or.inl ⟨.int 0, rfl, rfl⟩) ?_
  refine XW.fam (S' := (4, [(3, .int 0), (2, .int 0), (0, .ref 94), (1, .int dv)], [], (sh, I, L, R))) (M := mr_336) rfl (show mcode 336 3 = some (3, .istore_n 3, 1, 0, 0, 0, _) from rfl) (Or.inr (Or.inr (Or.inr (Or.inr (Or.inr (Or.inr (Or.inl ⟨_, [], _, rfl, rfl, rfl⟩))))))) ?_
  refine XW.sub (ls' := [(3, .int 0), (2, .int 0), (1, .int dv), (0, .ref 94)]) (List.forall_mem_cons.mpr ⟨List.mem_of_getElem? (i := 0) rfl, (List.forall_mem_cons.mpr ⟨List.mem_of_getElem? (i := 1) rfl, (List.forall_mem_cons.mpr ⟨List.mem_of_getElem? (i := 3) rfl, (List.forall_mem_cons.mpr ⟨List.mem_of_getElem? (i := 2) rfl, (fun _ h => absurd h List.not_mem_nil)⟩)⟩)⟩)⟩) ?_
  refine chA_lp (d := d) hw hS hkp hD (fun {b} hb1 hb2 k => ?_) 4 0 0 (by decide) (by have := hS.2.2.1; omega) (by have := hS.2.2.1; omega) (Or.inl rfl) ⟨fun q => absurd q (by decide), fun q => Bool.noConfusion (show false = true from q)⟩
  refine XW.fam (S' := (38, [(3, .int k), (2, .int b), (1, .int dv), (0, .ref 94)], [.int (-1)], (sh, I, L, R))) (M := mr_336) rfl (show mcode 336 37 = some (37, .iconst (-1), 1, 0, 0, 0, _) from rfl) (Or.inl ⟨.int (-1), rfl, rfl⟩) ?_
  refine XW.fam (S' := (39, [(3, .int (-1)), (2, .int b), (1, .int dv), (0, .ref 94)], [], (sh, I, L, R))) (M := mr_336) rfl (show mcode 336 38 = some (38, .istore_n 3, 1, 0, 0, 0, _) from rfl) (Or.inr (Or.inr (Or.inr (Or.inr (Or.inr (Or.inr (Or.inl ⟨_, [], _, rfl, rfl, rfl⟩))))))) ?_
  refine XW.fam (S' := (40, [(3, .int (-1)), (2, .int b), (1, .int dv), (0, .ref 94)], [.int 0], (sh, I, L, R))) (M := mr_336) rfl (show mcode 336 39 = some (39, .iconst 0, 1, 0, 0, 0, _) from rfl) (Or.inl ⟨.int 0, rfl, rfl⟩) ?_
  refine XW.fam (S' := (42, [(4, .int 0), (3, .int (-1)), (2, .int b), (1, .int dv), (0, .ref 94)], [], (sh, I, L, R))) (M := mr_336) rfl (show mcode 336 40 = some (40, .istore 4, 2, 0, 0, 0, _) from rfl) (Or.inr (Or.inr (Or.inr (Or.inr (Or.inr (Or.inr (Or.inl ⟨_, [], _, rfl, rfl, rfl⟩))))))) ?_
  refine XW.sub (ls' := [(4, .int 0), (3, .int (-1)), (2, .int b), (1, .int dv), (0, .ref 94)]) (List.forall_mem_cons.mpr ⟨List.mem_of_getElem? (i := 0) rfl, (List.forall_mem_cons.mpr ⟨List.mem_of_getElem? (i := 1) rfl, (List.forall_mem_cons.mpr ⟨List.mem_of_getElem? (i := 2) rfl, (List.forall_mem_cons.mpr ⟨List.mem_of_getElem? (i := 3) rfl, (List.forall_mem_cons.mpr ⟨List.mem_of_getElem? (i := 4) rfl, (fun _ h => absurd h List.not_mem_nil)⟩)⟩)⟩)⟩)⟩) ?_
  exact chB_lp (d := d) hw hS hkp hD hb1 hb2 4 0 (-1) (by decide) (by have := hS.2.1; omega) (by have := hS.2.1; omega) (fun _ => rfl) (Or.inl ⟨rfl, rfl⟩)
theorem mcp_lp {d : Nat} {sh : List mE} {J : Nat → Nat → Int32} {L : Nat → Nat → Int64} {R : Nat → Nat → Option Nat} {dv done home y : Int32} {Q : Option Value → mW → Prop} (h9 : 0 ≤ done.toInt ∧ done.toInt ≤ 9) : ∀ (z : Nat) {I : Nat → Nat → Int32} (k : Int32), 0 ≤ k.toInt → k.toInt ≤ done.toInt → done.toInt - k.toInt < z → wOK (mkT vV []) (wE sh R) (sh, I, L, R) → fresh (sh, I, L, R) → (∀ q j, ¬ q = 155 → I q j = J q j) → (∀ j : Nat, (j : Int) < k.toInt → I 155 j = J 154 j) → (∀ {I : Nat → Nat → Int32}, wOK (mkT vV []) (wE sh R) (sh, I, L, R) → fresh (sh, I, L, R) → (∀ q j, ¬ q = 155 → I q j = J q j) → (∀ j : Nat, (j : Int) < done.toInt → I 155 j = J 154 j) → ∀ k : Int32, XW 335 mr_335 none d 0 0 Q (72, [(5, .int k), (4, .int y), (3, .int home), (2, .int done), (1, .int dv), (0, .ref 94)], [], (sh, I, L, R))) → XW 335 mr_335 none d 0 0 Q (46, [(5, .int k), (4, .int y), (3, .int home), (2, .int done), (1, .int dv), (0, .ref 94)], [], (sh, I, L, R)) := by
  intro z
  induction z with
  | zero =>
    intro I k h1 h2 hz
    exfalso
    omega
  | succ z ih =>
    intro I k h1 h2 hz hw hf hkp hcp K
    have c94 : sh[94]? = some (.inr 12) := hw.1 94 _ rfl
    have c154 : sh[154]? = some (.inl (.int, 12)) := hw.1 154 _ rfl
    have c155 : sh[155]? = some (.inl (.int, 12)) := hw.1 155 _ rfl
    have r94_87 : R 94 87 = some 154 := hw.2.1 94 87 _ rfl
    have r94_88 : R 94 88 = some 155 := hw.2.1 94 88 _ rfl
    refine XW.fam (S' := (48, [(5, .int k), (4, .int y), (3, .int home), (2, .int done), (1, .int dv), (0, .ref 94)], [.int k], (sh, I, L, R))) (M := mr_335) rfl (show mcode 335 46 = some (46, .iload 5, 2, 0, 0, 0, _) from rfl) (Or.inl ⟨.int k, rfl, rfl⟩) ?_
    refine XW.fam (S' := (49, [(5, .int k), (4, .int y), (3, .int home), (2, .int done), (1, .int dv), (0, .ref 94)], [.int done, .int k], (sh, I, L, R))) (M := mr_335) rfl (show mcode 335 48 = some (48, .iload_n 2, 1, 0, 0, 0, _) from rfl) (Or.inl ⟨.int done, rfl, rfl⟩) ?_
    cases k1 : bcmp .ge k done with
    | true =>
      have gk1 : (done).toInt ≤ (k).toInt := icT (c := .ge) (a := (k).toInt) (b := (done).toInt) rfl rfl k1
      refine XW.fam (S' := (72, [(5, .int k), (4, .int y), (3, .int home), (2, .int done), (1, .int dv), (0, .ref 94)], [], (sh, I, L, R))) (M := mr_335) rfl (show mcode 335 49 = some (49, .if_icmp .ge 23, 3, 72, 0, 0, _) from rfl) (Or.inr (Or.inl ⟨72, [], by simp [brn, k1], rfl⟩)) ?_
      exact K hw hf hkp (fun j hj => hcp j (by omega)) k
    | false =>
      have gk1 : ¬ ((done).toInt ≤ (k).toInt) := icF (c := .ge) (a := (k).toInt) (b := (done).toInt) rfl rfl k1
      refine XW.fam (S' := (52, [(5, .int k), (4, .int y), (3, .int home), (2, .int done), (1, .int dv), (0, .ref 94)], [], (sh, I, L, R))) (M := mr_335) rfl (show mcode 335 49 = some (49, .if_icmp .ge 23, 3, 72, 0, 0, _) from rfl) (Or.inr (Or.inl ⟨52, [], by simp [brn, k1], rfl⟩)) ?_
      refine XW.fam (S' := (53, [(5, .int k), (4, .int y), (3, .int home), (2, .int done), (1, .int dv), (0, .ref 94)], [.ref 94], (sh, I, L, R))) (M := mr_335) rfl (show mcode 335 52 = some (52, .aload_n 0, 1, 0, 0, 0, _) from rfl) (Or.inl ⟨.ref 94, rfl, rfl⟩) ?_
      refine XW.fam (S' := (56, [(5, .int k), (4, .int y), (3, .int home), (2, .int done), (1, .int dv), (0, .ref 94)], [.ref 155], (sh, I, L, R))) (M := mr_335) rfl (show mcode 335 53 = some (53, .getfield 199, 3, 12, 88, 0, _) from rfl) (Or.inr (Or.inr (Or.inr (Or.inr (Or.inr (Or.inr (Or.inr (Or.inl ⟨_, _, rfl, fl_ld c94 r94_88 (by decide) (by decide), rfl⟩)))))))) ?_
      refine XW.fam (S' := (58, [(5, .int k), (4, .int y), (3, .int home), (2, .int done), (1, .int dv), (0, .ref 94)], [.int k, .ref 155], (sh, I, L, R))) (M := mr_335) rfl (show mcode 335 56 = some (56, .iload 5, 2, 0, 0, 0, _) from rfl) (Or.inl ⟨.int k, rfl, rfl⟩) ?_
      refine XW.fam (S' := (59, [(5, .int k), (4, .int y), (3, .int home), (2, .int done), (1, .int dv), (0, .ref 94)], [.ref 94, .int k, .ref 155], (sh, I, L, R))) (M := mr_335) rfl (show mcode 335 58 = some (58, .aload_n 0, 1, 0, 0, 0, _) from rfl) (Or.inl ⟨.ref 94, rfl, rfl⟩) ?_
      refine XW.fam (S' := (62, [(5, .int k), (4, .int y), (3, .int home), (2, .int done), (1, .int dv), (0, .ref 94)], [.ref 154, .int k, .ref 155], (sh, I, L, R))) (M := mr_335) rfl (show mcode 335 59 = some (59, .getfield 196, 3, 12, 87, 0, _) from rfl) (Or.inr (Or.inr (Or.inr (Or.inr (Or.inr (Or.inr (Or.inr (Or.inl ⟨_, _, rfl, fl_ld c94 r94_87 (by decide) (by decide), rfl⟩)))))))) ?_
      refine XW.fam (S' := (64, [(5, .int k), (4, .int y), (3, .int home), (2, .int done), (1, .int dv), (0, .ref 94)], [.int k, .ref 154, .int k, .ref 155], (sh, I, L, R))) (M := mr_335) rfl (show mcode 335 62 = some (62, .iload 5, 2, 0, 0, 0, _) from rfl) (Or.inl ⟨.int k, rfl, rfl⟩) ?_
      have hin2 : inR k 12 = true := inR_of (by omega) (by omega)
      refine XW.fam (S' := (65, [(5, .int k), (4, .int y), (3, .int home), (2, .int done), (1, .int dv), (0, .ref 94)], [.int (I 154 (k).toNatClampNeg), .int k, .ref 155], (sh, I, L, R))) (M := mr_335) rfl (show mcode 335 64 = some (64, .iaload, 1, 0, 0, 0, _) from rfl) (Or.inr (Or.inr (Or.inl ⟨_, lda_i c154 hin2, rfl⟩))) ?_
      have hin3 : inR k 12 = true := inR_of (by omega) (by omega)
      obtain ⟨I4, eI4⟩ : ∃ X, X = up2 I 155 (k).toNatClampNeg (I 154 (k).toNatClampNeg) := ⟨_, rfl⟩
      refine XW.fam (S' := (66, [(5, .int k), (4, .int y), (3, .int home), (2, .int done), (1, .int dv), (0, .ref 94)], [], (sh, I4, L, R))) (M := mr_335) rfl (show mcode 335 65 = some (65, .iastore, 1, 0, 0, 0, _) from rfl) (Or.inr (Or.inr (Or.inr (Or.inl ⟨_, _, by rw [eI4]; exact sta_i c155 hin3, rfl⟩)))) ?_
      have h154 : 0 ≤ ((I 154 (k).toNatClampNeg)).toInt ∧ ((I 154 (k).toNatClampNeg)).toInt ≤ 9 := hw.2.2.1 154 _
      have hwI4 : wOK (mkT vV []) (wE sh R) (sh, I4, L, R) := by rw [eI4]; exact wOK_u2 (q := 155) (k := (k).toNatClampNeg) (x := (I 154 (k).toNatClampNeg)) wE_put hw rfl (by show (0 : Int) ≤ _; omega) (by show _ ≤ (9 : Int); omega)
      have hfI4 : fresh (sh, I4, L, R) := by rw [eI4]; exact fresh_I hf c155
      have v5 : I4 155 (k).toNatClampNeg = (I 154 (k).toNatClampNeg) := by rw [eI4]; exact up2_eq
      refine XW.fam (S' := (69, [(5, .int (k + Int32.ofInt 1)), (4, .int y), (3, .int home), (2, .int done), (1, .int dv), (0, .ref 94)], [], (sh, I4, L, R))) (M := mr_335) rfl (show mcode 335 66 = some (66, .iinc 5 1, 3, 0, 0, 0, _) from rfl) (Or.inr (Or.inr (Or.inr (Or.inr (Or.inr (Or.inr (Or.inr (Or.inr (Or.inr ⟨5, 1, k, rfl, rfl, by decide, rfl⟩))))))))) ?_
      refine XW.fam (S' := (46, [(5, .int (k + Int32.ofInt 1)), (4, .int y), (3, .int home), (2, .int done), (1, .int dv), (0, .ref 94)], [], (sh, I4, L, R))) (M := mr_335) rfl (show mcode 335 69 = some (69, .goto (-23), 3, 46, 0, 0, _) from rfl) (Or.inr (Or.inl ⟨46, [], rfl, rfl⟩)) ?_
      have eo := incO (m := k) (by omega) (by omega)
      have kn : (k).toNatClampNeg = k.toInt.toNat := rfl
      refine XW.sub (ls' := [(5, .int (k + Int32.ofInt 1)), (4, .int y), (3, .int home), (2, .int done), (1, .int dv), (0, .ref 94)]) (List.forall_mem_cons.mpr ⟨List.mem_of_getElem? (i := 0) rfl, (List.forall_mem_cons.mpr ⟨List.mem_of_getElem? (i := 1) rfl, (List.forall_mem_cons.mpr ⟨List.mem_of_getElem? (i := 2) rfl, (List.forall_mem_cons.mpr ⟨List.mem_of_getElem? (i := 3) rfl, (List.forall_mem_cons.mpr ⟨List.mem_of_getElem? (i := 4) rfl, (List.forall_mem_cons.mpr ⟨List.mem_of_getElem? (i := 5) rfl, (fun _ h => absurd h List.not_mem_nil)⟩)⟩)⟩)⟩)⟩)⟩) ?_
      refine ih (k + Int32.ofInt 1) (by omega) (by omega) (by omega) hwI4 hfI4 (fun q j hq => by rw [eI4, up2_ne (fun e => hq e.1)]; exact hkp q j hq) (fun j hj => ?_) K
      by_cases e : j = k.toInt.toNat
      · rw [e, ← kn, eI4, up2_eq]
        exact hkp 154 _ (by decide)
      · rw [eI4, up2_ne (fun z => e (by exact z.2))]
        exact hcp j (by omega)
theorem mch_leaf {d : Nat} {sh : List mE} {I : Nat → Nat → Int32} {L : Nat → Nat → Int64} {R : Nat → Nat → Option Nat} {J : Nat → Nat → Int32} {ma mc dv done home y : Int32} (hw : wOK (mkT vV []) (wE sh R) (sh, I, L, R)) (hf : fresh (sh, I, L, R)) (h9 : 0 ≤ done.toInt ∧ done.toInt ≤ 9) (hno : yyChs ma.toInt.toNat mc.toInt.toNat (vRow J 136 148) dv.toInt (vxM I ma.toInt.toNat) = none) : XW 335 mr_335 none d 0 0 (QMh sh R J dv.toInt ma.toInt.toNat mc.toInt.toNat I done home) (12, [(4, .int y), (3, .int home), (2, .int done), (1, .int dv), (0, .ref 94)], [], (sh, I, L, R)) := by
  have c94 : sh[94]? = some (.inr 12) := hw.1 94 _ rfl
  have z0 : (0 : Int32).toInt = 0 := rfl
  have z1 : (1 : Int32).toInt = 1 := rfl
  have h91 : 0 ≤ (I 94 91).toInt ∧ (I 94 91).toInt ≤ 1 := hw.2.2.1 94 91
  refine XW.fam (S' := (13, [(4, .int y), (3, .int home), (2, .int done), (1, .int dv), (0, .ref 94)], [.ref 94], (sh, I, L, R))) (M := mr_335) rfl (show mcode 335 12 = some (12, .aload_n 0, 1, 0, 0, 0, _) from rfl) (Or.inl ⟨.ref 94, rfl, rfl⟩) ?_
  refine XW.fam (S' := (16, [(4, .int y), (3, .int home), (2, .int done), (1, .int dv), (0, .ref 94)], [.int (I 94 91)], (sh, I, L, R))) (M := mr_335) rfl (show mcode 335 13 = some (13, .getfield 560, 3, 12, 91, 0, _) from rfl) (Or.inr (Or.inr (Or.inr (Or.inr (Or.inr (Or.inr (Or.inr (Or.inl ⟨_, _, rfl, fl_ldI c94 (by decide) (by decide), rfl⟩)))))))) ?_
  cases k1 : bcmp .eq (I 94 91) 0 with
  | true =>
    have gk1 : ((I 94 91)).toInt = 0 := icT (c := .eq) (a := ((I 94 91)).toInt) (b := 0) rfl (by decide) k1
    refine XW.fam (S' := (28, [(4, .int y), (3, .int home), (2, .int done), (1, .int dv), (0, .ref 94)], [], (sh, I, L, R))) (M := mr_335) rfl (show mcode 335 16 = some (16, .ifCond .eq 12, 3, 28, 0, 0, _) from rfl) (Or.inr (Or.inl ⟨28, [], by simp [brn, k1], rfl⟩)) ?_
    refine XW.fam (S' := (29, [(4, .int y), (3, .int home), (2, .int done), (1, .int dv), (0, .ref 94)], [.ref 94], (sh, I, L, R))) (M := mr_335) rfl (show mcode 335 28 = some (28, .aload_n 0, 1, 0, 0, 0, _) from rfl) (Or.inl ⟨.ref 94, rfl, rfl⟩) ?_
    refine XW.fam (S' := (30, [(4, .int y), (3, .int home), (2, .int done), (1, .int dv), (0, .ref 94)], [.int 1, .ref 94], (sh, I, L, R))) (M := mr_335) rfl (show mcode 335 29 = some (29, .iconst 1, 1, 0, 0, 0, _) from rfl) (Or.inl ⟨.int 1, rfl, rfl⟩) ?_
    obtain ⟨I2, eI2⟩ : ∃ X, X = up2 I 94 91 1 := ⟨_, rfl⟩
    refine XW.fam (S' := (33, [(4, .int y), (3, .int home), (2, .int done), (1, .int dv), (0, .ref 94)], [], (sh, I2, L, R))) (M := mr_335) rfl (show mcode 335 30 = some (30, .putfield 560, 3, 12, 91, 0, _) from rfl) (Or.inr (Or.inr (Or.inr (Or.inr (Or.inr (Or.inr (Or.inr (Or.inr (Or.inl ⟨_, _, _, rfl, by rw [eI2]; exact stf_Z c94 (by decide) (by decide) (by decide) (by decide), rfl⟩))))))))) ?_
    have hwI2 : wOK (mkT vV []) (wE sh R) (sh, I2, L, R) := by rw [eI2]; exact wOK_u2 (q := 94) (k := 91) (x := 1) wE_put hw rfl (by show (0 : Int) ≤ _; omega) (by show _ ≤ (1 : Int); omega)
    have hfI2 : fresh (sh, I2, L, R) := by rw [eI2]; exact fresh_I hf c94
    have v3 : I2 94 91 = 1 := by rw [eI2]; exact up2_eq
    refine XW.fam (S' := (34, [(4, .int y), (3, .int home), (2, .int done), (1, .int dv), (0, .ref 94)], [.ref 94], (sh, I2, L, R))) (M := mr_335) rfl (show mcode 335 33 = some (33, .aload_n 0, 1, 0, 0, 0, _) from rfl) (Or.inl ⟨.ref 94, rfl, rfl⟩) ?_
    refine XW.fam (S' := (35, [(4, .int y), (3, .int home), (2, .int done), (1, .int dv), (0, .ref 94)], [.int home, .ref 94], (sh, I2, L, R))) (M := mr_335) rfl (show mcode 335 34 = some (34, .iload_n 3, 1, 0, 0, 0, _) from rfl) (Or.inl ⟨.int home, rfl, rfl⟩) ?_
    obtain ⟨I4, eI4⟩ : ∃ X, X = up2 I2 94 90 home := ⟨_, rfl⟩
    refine XW.fam (S' := (38, [(4, .int y), (3, .int home), (2, .int done), (1, .int dv), (0, .ref 94)], [], (sh, I4, L, R))) (M := mr_335) rfl (show mcode 335 35 = some (35, .putfield 563, 3, 12, 90, 0, _) from rfl) (Or.inr (Or.inr (Or.inr (Or.inr (Or.inr (Or.inr (Or.inr (Or.inr (Or.inl ⟨_, _, _, rfl, by rw [eI4]; exact stf_I c94 (by decide) (by decide) (by decide), rfl⟩))))))))) ?_
    have xb := i32b (home)
    unfold lo32 hi32 at xb
    have hwI4 : wOK (mkT vV []) (wE sh R) (sh, I4, L, R) := by rw [eI4]; exact wOK_u2 (q := 94) (k := 90) (x := home) wE_put hwI2 rfl (by show ((-2147483648) : Int) ≤ _; omega) (by show _ ≤ (2147483647 : Int); omega)
    have hfI4 : fresh (sh, I4, L, R) := by rw [eI4]; exact fresh_I hfI2 c94
    have v5 : I4 94 91 = 1 := by rw [eI4, up2_ne (fun e => by cases e.2)]; exact v3
    have v6 : I4 94 90 = home := by rw [eI4]; exact up2_eq
    refine XW.fam (S' := (39, [(4, .int y), (3, .int home), (2, .int done), (1, .int dv), (0, .ref 94)], [.ref 94], (sh, I4, L, R))) (M := mr_335) rfl (show mcode 335 38 = some (38, .aload_n 0, 1, 0, 0, 0, _) from rfl) (Or.inl ⟨.ref 94, rfl, rfl⟩) ?_
    refine XW.fam (S' := (40, [(4, .int y), (3, .int home), (2, .int done), (1, .int dv), (0, .ref 94)], [.int done, .ref 94], (sh, I4, L, R))) (M := mr_335) rfl (show mcode 335 39 = some (39, .iload_n 2, 1, 0, 0, 0, _) from rfl) (Or.inl ⟨.int done, rfl, rfl⟩) ?_
    obtain ⟨I7, eI7⟩ : ∃ X, X = up2 I4 94 89 done := ⟨_, rfl⟩
    refine XW.fam (S' := (43, [(4, .int y), (3, .int home), (2, .int done), (1, .int dv), (0, .ref 94)], [], (sh, I7, L, R))) (M := mr_335) rfl (show mcode 335 40 = some (40, .putfield 202, 3, 12, 89, 0, _) from rfl) (Or.inr (Or.inr (Or.inr (Or.inr (Or.inr (Or.inr (Or.inr (Or.inr (Or.inl ⟨_, _, _, rfl, by rw [eI7]; exact stf_I c94 (by decide) (by decide) (by decide), rfl⟩))))))))) ?_
    have hwI7 : wOK (mkT vV []) (wE sh R) (sh, I7, L, R) := by rw [eI7]; exact wOK_u2 (q := 94) (k := 89) (x := done) wE_put hwI4 rfl (by show ((-1) : Int) ≤ _; omega) (by show _ ≤ (11 : Int); omega)
    have hfI7 : fresh (sh, I7, L, R) := by rw [eI7]; exact fresh_I hfI4 c94
    have v8 : I7 94 91 = 1 := by rw [eI7, up2_ne (fun e => by cases e.2)]; exact v5
    have v9 : I7 94 90 = home := by rw [eI7, up2_ne (fun e => by cases e.2)]; exact v6
    have v10 : I7 94 89 = done := by rw [eI7]; exact up2_eq
    refine XW.fam (S' := (44, [(4, .int y), (3, .int home), (2, .int done), (1, .int dv), (0, .ref 94)], [.int 0], (sh, I7, L, R))) (M := mr_335) rfl (show mcode 335 43 = some (43, .iconst 0, 1, 0, 0, 0, _) from rfl) (Or.inl ⟨.int 0, rfl, rfl⟩) ?_
    refine XW.fam (S' := (46, [(5, .int 0), (4, .int y), (3, .int home), (2, .int done), (1, .int dv), (0, .ref 94)], [], (sh, I7, L, R))) (M := mr_335) rfl (show mcode 335 44 = some (44, .istore 5, 2, 0, 0, 0, _) from rfl) (Or.inr (Or.inr (Or.inr (Or.inr (Or.inr (Or.inr (Or.inl ⟨_, [], _, rfl, rfl, rfl⟩))))))) ?_
    refine XW.sub (ls' := [(5, .int 0), (4, .int y), (3, .int home), (2, .int done), (1, .int dv), (0, .ref 94)]) (List.forall_mem_cons.mpr ⟨List.mem_of_getElem? (i := 0) rfl, (List.forall_mem_cons.mpr ⟨List.mem_of_getElem? (i := 1) rfl, (List.forall_mem_cons.mpr ⟨List.mem_of_getElem? (i := 2) rfl, (List.forall_mem_cons.mpr ⟨List.mem_of_getElem? (i := 3) rfl, (List.forall_mem_cons.mpr ⟨List.mem_of_getElem? (i := 4) rfl, (List.forall_mem_cons.mpr ⟨List.mem_of_getElem? (i := 5) rfl, (fun _ h => absurd h List.not_mem_nil)⟩)⟩)⟩)⟩)⟩)⟩) ?_
    refine mcp_lp (J := I7) (by omega) 10 0 (by decide) (by omega) (by omega) hwI7 hfI7 (fun _ _ _ => rfl) (fun j hj => by exfalso; omega) (fun {I2} hw2 hf2 hk2 hr2 k => ?_)
    refine XW.ret (r := none) ⟨rfl, by decide +kernel⟩ ?_
    refine ⟨rfl, hf2, hw2, fun q k h => ?_, fun k _ => ?_, ?_⟩
    · show I2 q k = I q k
      rw [hk2 q k (fun e => by rw [e] at h; cases h), eI7, up2_ne (fun e => by rw [e.1, e.2] at h; cases h), eI4, up2_ne (fun e => by rw [e.1, e.2] at h; cases h), eI2, up2_ne (fun e => by rw [e.1, e.2] at h; cases h)]
    · show I2 154 k = I 154 k
      rw [hk2 154 k (by decide), eI7, up2_ne (fun e => by cases e.1), eI4, up2_ne (fun e => by cases e.1), eI2, up2_ne (fun e => by cases e.1)]
    · rw [yyW_none hno, yyL_none hno, bsM_put (by omega)]
      show bsM I2 = _
      have a1 : I2 94 91 = 1 := by rw [hk2 94 91 (by decide), eI7, up2_ne (fun e => by cases e.2), eI4, up2_ne (fun e => by cases e.2), eI2, up2_eq]
      have a2 : I2 94 90 = home := by rw [hk2 94 90 (by decide), eI7, up2_ne (fun e => by cases e.2), eI4, up2_eq]
      have a3 : I2 94 89 = done := by rw [hk2 94 89 (by decide), eI7, up2_eq]
      have a4 : ∀ k, k < done.toInt.toNat → I2 155 k = I 154 k := by
        intro k hk
        rw [hr2 k (by omega), eI7, up2_ne (fun e => by cases e.1), eI4, up2_ne (fun e => by cases e.1), eI2, up2_ne (fun e => by cases e.1)]
      unfold bsM
      rw [a1, a2, a3, if_neg (by decide), rwL_congr (I := I2) (J := I) (q := 155) (q' := 154) a4]
  | false =>
    have gk1 : ¬ (((I 94 91)).toInt = 0) := icF (c := .eq) (a := ((I 94 91)).toInt) (b := 0) rfl (by decide) k1
    refine XW.fam (S' := (19, [(4, .int y), (3, .int home), (2, .int done), (1, .int dv), (0, .ref 94)], [], (sh, I, L, R))) (M := mr_335) rfl (show mcode 335 16 = some (16, .ifCond .eq 12, 3, 28, 0, 0, _) from rfl) (Or.inr (Or.inl ⟨19, [], by simp [brn, k1], rfl⟩)) ?_
    refine XW.fam (S' := (20, [(4, .int y), (3, .int home), (2, .int done), (1, .int dv), (0, .ref 94)], [.int home], (sh, I, L, R))) (M := mr_335) rfl (show mcode 335 19 = some (19, .iload_n 3, 1, 0, 0, 0, _) from rfl) (Or.inl ⟨.int home, rfl, rfl⟩) ?_
    refine XW.fam (S' := (21, [(4, .int y), (3, .int home), (2, .int done), (1, .int dv), (0, .ref 94)], [.ref 94, .int home], (sh, I, L, R))) (M := mr_335) rfl (show mcode 335 20 = some (20, .aload_n 0, 1, 0, 0, 0, _) from rfl) (Or.inl ⟨.ref 94, rfl, rfl⟩) ?_
    refine XW.fam (S' := (24, [(4, .int y), (3, .int home), (2, .int done), (1, .int dv), (0, .ref 94)], [.int (I 94 90), .int home], (sh, I, L, R))) (M := mr_335) rfl (show mcode 335 21 = some (21, .getfield 563, 3, 12, 90, 0, _) from rfl) (Or.inr (Or.inr (Or.inr (Or.inr (Or.inr (Or.inr (Or.inr (Or.inl ⟨_, _, rfl, fl_ldI c94 (by decide) (by decide), rfl⟩)))))))) ?_
    cases k11 : bcmp .gt home (I 94 90) with
    | true =>
      have gk11 : ((I 94 90)).toInt < (home).toInt := icT (c := .gt) (a := (home).toInt) (b := ((I 94 90)).toInt) rfl rfl k11
      refine XW.fam (S' := (28, [(4, .int y), (3, .int home), (2, .int done), (1, .int dv), (0, .ref 94)], [], (sh, I, L, R))) (M := mr_335) rfl (show mcode 335 24 = some (24, .if_icmp .gt 4, 3, 28, 0, 0, _) from rfl) (Or.inr (Or.inl ⟨28, [], by simp [brn, k11], rfl⟩)) ?_
      refine XW.fam (S' := (29, [(4, .int y), (3, .int home), (2, .int done), (1, .int dv), (0, .ref 94)], [.ref 94], (sh, I, L, R))) (M := mr_335) rfl (show mcode 335 28 = some (28, .aload_n 0, 1, 0, 0, 0, _) from rfl) (Or.inl ⟨.ref 94, rfl, rfl⟩) ?_
      refine XW.fam (S' := (30, [(4, .int y), (3, .int home), (2, .int done), (1, .int dv), (0, .ref 94)], [.int 1, .ref 94], (sh, I, L, R))) (M := mr_335) rfl (show mcode 335 29 = some (29, .iconst 1, 1, 0, 0, 0, _) from rfl) (Or.inl ⟨.int 1, rfl, rfl⟩) ?_
      obtain ⟨I12, eI12⟩ : ∃ X, X = up2 I 94 91 1 := ⟨_, rfl⟩
      refine XW.fam (S' := (33, [(4, .int y), (3, .int home), (2, .int done), (1, .int dv), (0, .ref 94)], [], (sh, I12, L, R))) (M := mr_335) rfl (show mcode 335 30 = some (30, .putfield 560, 3, 12, 91, 0, _) from rfl) (Or.inr (Or.inr (Or.inr (Or.inr (Or.inr (Or.inr (Or.inr (Or.inr (Or.inl ⟨_, _, _, rfl, by rw [eI12]; exact stf_Z c94 (by decide) (by decide) (by decide) (by decide), rfl⟩))))))))) ?_
      have hwI12 : wOK (mkT vV []) (wE sh R) (sh, I12, L, R) := by rw [eI12]; exact wOK_u2 (q := 94) (k := 91) (x := 1) wE_put hw rfl (by show (0 : Int) ≤ _; omega) (by show _ ≤ (1 : Int); omega)
      have hfI12 : fresh (sh, I12, L, R) := by rw [eI12]; exact fresh_I hf c94
      have v13 : I12 94 91 = 1 := by rw [eI12]; exact up2_eq
      refine XW.fam (S' := (34, [(4, .int y), (3, .int home), (2, .int done), (1, .int dv), (0, .ref 94)], [.ref 94], (sh, I12, L, R))) (M := mr_335) rfl (show mcode 335 33 = some (33, .aload_n 0, 1, 0, 0, 0, _) from rfl) (Or.inl ⟨.ref 94, rfl, rfl⟩) ?_
      refine XW.fam (S' := (35, [(4, .int y), (3, .int home), (2, .int done), (1, .int dv), (0, .ref 94)], [.int home, .ref 94], (sh, I12, L, R))) (M := mr_335) rfl (show mcode 335 34 = some (34, .iload_n 3, 1, 0, 0, 0, _) from rfl) (Or.inl ⟨.int home, rfl, rfl⟩) ?_
      obtain ⟨I14, eI14⟩ : ∃ X, X = up2 I12 94 90 home := ⟨_, rfl⟩
      refine XW.fam (S' := (38, [(4, .int y), (3, .int home), (2, .int done), (1, .int dv), (0, .ref 94)], [], (sh, I14, L, R))) (M := mr_335) rfl (show mcode 335 35 = some (35, .putfield 563, 3, 12, 90, 0, _) from rfl) (Or.inr (Or.inr (Or.inr (Or.inr (Or.inr (Or.inr (Or.inr (Or.inr (Or.inl ⟨_, _, _, rfl, by rw [eI14]; exact stf_I c94 (by decide) (by decide) (by decide), rfl⟩))))))))) ?_
      have xb := i32b (home)
      unfold lo32 hi32 at xb
      have hwI14 : wOK (mkT vV []) (wE sh R) (sh, I14, L, R) := by rw [eI14]; exact wOK_u2 (q := 94) (k := 90) (x := home) wE_put hwI12 rfl (by show ((-2147483648) : Int) ≤ _; omega) (by show _ ≤ (2147483647 : Int); omega)
      have hfI14 : fresh (sh, I14, L, R) := by rw [eI14]; exact fresh_I hfI12 c94
      have v15 : I14 94 91 = 1 := by rw [eI14, up2_ne (fun e => by cases e.2)]; exact v13
      have v16 : I14 94 90 = home := by rw [eI14]; exact up2_eq
      refine XW.fam (S' := (39, [(4, .int y), (3, .int home), (2, .int done), (1, .int dv), (0, .ref 94)], [.ref 94], (sh, I14, L, R))) (M := mr_335) rfl (show mcode 335 38 = some (38, .aload_n 0, 1, 0, 0, 0, _) from rfl) (Or.inl ⟨.ref 94, rfl, rfl⟩) ?_
      refine XW.fam (S' := (40, [(4, .int y), (3, .int home), (2, .int done), (1, .int dv), (0, .ref 94)], [.int done, .ref 94], (sh, I14, L, R))) (M := mr_335) rfl (show mcode 335 39 = some (39, .iload_n 2, 1, 0, 0, 0, _) from rfl) (Or.inl ⟨.int done, rfl, rfl⟩) ?_
      obtain ⟨I17, eI17⟩ : ∃ X, X = up2 I14 94 89 done := ⟨_, rfl⟩
      refine XW.fam (S' := (43, [(4, .int y), (3, .int home), (2, .int done), (1, .int dv), (0, .ref 94)], [], (sh, I17, L, R))) (M := mr_335) rfl (show mcode 335 40 = some (40, .putfield 202, 3, 12, 89, 0, _) from rfl) (Or.inr (Or.inr (Or.inr (Or.inr (Or.inr (Or.inr (Or.inr (Or.inr (Or.inl ⟨_, _, _, rfl, by rw [eI17]; exact stf_I c94 (by decide) (by decide) (by decide), rfl⟩))))))))) ?_
      have hwI17 : wOK (mkT vV []) (wE sh R) (sh, I17, L, R) := by rw [eI17]; exact wOK_u2 (q := 94) (k := 89) (x := done) wE_put hwI14 rfl (by show ((-1) : Int) ≤ _; omega) (by show _ ≤ (11 : Int); omega)
      have hfI17 : fresh (sh, I17, L, R) := by rw [eI17]; exact fresh_I hfI14 c94
      have v18 : I17 94 91 = 1 := by rw [eI17, up2_ne (fun e => by cases e.2)]; exact v15
      have v19 : I17 94 90 = home := by rw [eI17, up2_ne (fun e => by cases e.2)]; exact v16
      have v20 : I17 94 89 = done := by rw [eI17]; exact up2_eq
      refine XW.fam (S' := (44, [(4, .int y), (3, .int home), (2, .int done), (1, .int dv), (0, .ref 94)], [.int 0], (sh, I17, L, R))) (M := mr_335) rfl (show mcode 335 43 = some (43, .iconst 0, 1, 0, 0, 0, _) from rfl) (Or.inl ⟨.int 0, rfl, rfl⟩) ?_
      refine XW.fam (S' := (46, [(5, .int 0), (4, .int y), (3, .int home), (2, .int done), (1, .int dv), (0, .ref 94)], [], (sh, I17, L, R))) (M := mr_335) rfl (show mcode 335 44 = some (44, .istore 5, 2, 0, 0, 0, _) from rfl) (Or.inr (Or.inr (Or.inr (Or.inr (Or.inr (Or.inr (Or.inl ⟨_, [], _, rfl, rfl, rfl⟩))))))) ?_
      refine XW.sub (ls' := [(5, .int 0), (4, .int y), (3, .int home), (2, .int done), (1, .int dv), (0, .ref 94)]) (List.forall_mem_cons.mpr ⟨List.mem_of_getElem? (i := 0) rfl, (List.forall_mem_cons.mpr ⟨List.mem_of_getElem? (i := 1) rfl, (List.forall_mem_cons.mpr ⟨List.mem_of_getElem? (i := 2) rfl, (List.forall_mem_cons.mpr ⟨List.mem_of_getElem? (i := 3) rfl, (List.forall_mem_cons.mpr ⟨List.mem_of_getElem? (i := 4) rfl, (List.forall_mem_cons.mpr ⟨List.mem_of_getElem? (i := 5) rfl, (fun _ h => absurd h List.not_mem_nil)⟩)⟩)⟩)⟩)⟩)⟩) ?_
      refine mcp_lp (J := I17) (by omega) 10 0 (by decide) (by omega) (by omega) hwI17 hfI17 (fun _ _ _ => rfl) (fun j hj => by exfalso; omega) (fun {I2} hw2 hf2 hk2 hr2 k => ?_)
      refine XW.ret (r := none) ⟨rfl, by decide +kernel⟩ ?_
      refine ⟨rfl, hf2, hw2, fun q k h => ?_, fun k _ => ?_, ?_⟩
      · show I2 q k = I q k
        rw [hk2 q k (fun e => by rw [e] at h; cases h), eI17, up2_ne (fun e => by rw [e.1, e.2] at h; cases h), eI14, up2_ne (fun e => by rw [e.1, e.2] at h; cases h), eI12, up2_ne (fun e => by rw [e.1, e.2] at h; cases h)]
      · show I2 154 k = I 154 k
        rw [hk2 154 k (by decide), eI17, up2_ne (fun e => by cases e.1), eI14, up2_ne (fun e => by cases e.1), eI12, up2_ne (fun e => by cases e.1)]
      · rw [yyW_none hno, yyL_none hno, bsM_put (by omega)]
        show bsM I2 = _
        have a1 : I2 94 91 = 1 := by rw [hk2 94 91 (by decide), eI17, up2_ne (fun e => by cases e.2), eI14, up2_ne (fun e => by cases e.2), eI12, up2_eq]
        have a2 : I2 94 90 = home := by rw [hk2 94 90 (by decide), eI17, up2_ne (fun e => by cases e.2), eI14, up2_eq]
        have a3 : I2 94 89 = done := by rw [hk2 94 89 (by decide), eI17, up2_eq]
        have a4 : ∀ k, k < done.toInt.toNat → I2 155 k = I 154 k := by
          intro k hk
          rw [hr2 k (by omega), eI17, up2_ne (fun e => by cases e.1), eI14, up2_ne (fun e => by cases e.1), eI12, up2_ne (fun e => by cases e.1)]
        unfold bsM
        rw [a1, a2, a3, if_neg (by decide), rwL_congr (I := I2) (J := I) (q := 155) (q' := 154) a4]
    | false =>
      have gk11 : ¬ (((I 94 90)).toInt < (home).toInt) := icF (c := .gt) (a := (home).toInt) (b := ((I 94 90)).toInt) rfl rfl k11
      refine XW.fam (S' := (27, [(4, .int y), (3, .int home), (2, .int done), (1, .int dv), (0, .ref 94)], [], (sh, I, L, R))) (M := mr_335) rfl (show mcode 335 24 = some (24, .if_icmp .gt 4, 3, 28, 0, 0, _) from rfl) (Or.inr (Or.inl ⟨27, [], by simp [brn, k11], rfl⟩)) ?_
      refine XW.ret (r := none) ⟨rfl, by decide +kernel⟩ ?_
      refine ⟨rfl, hf, hw, fun _ _ _ => rfl, fun _ _ => rfl, ?_⟩
      show bsM I = _
      rw [yyW_none hno, yyL_none hno]
      exact (bsM_stay (I := I) (by omega) (by omega)).symm
theorem mch_it {d zz : Nat} {sh : List mE} {J I0 I : Nat → Nat → Int32} {L : Nat → Nat → Int64} {R : Nat → Nat → Option Nat} {ma mc dv done home y gb t : Int32} {s : Nat} {p0 : Option (Int × List Int)} {Q : Option Value → mW → Prop} (hS : stM J ma mc) (hD : dyM J I0 ma mc done home) (hs : yyChs ma.toInt.toNat mc.toInt.toNat (vRow J 136 148) dv.toInt (vxM I0 ma.toInt.toNat) = some s) (hy : y.toInt = (s : Int)) (hzz : yyNu (vxM I0 ma.toInt.toNat) ma.toInt.toNat < (zz : Int) + 1) (hkp0 : ∀ q k, inm mdMx q k = false → I0 q k = J q k) (IH : ∀ {I : Nat → Nat → Int32} {L : Nat → Nat → Int64} (done home : Int32), wOK (mkT vV []) (wE sh R) (sh, I, L, R) → fresh (sh, I, L, R) → (∀ q k, inm mdMx q k = false → I q k = J q k) → dyM J I ma mc done home → yyNu (vxM I ma.toInt.toNat) ma.toInt.toNat < (zz : Int) → Tc 335 (d + 2 + zz) 0 0 [.ref 94, .int dv, .int done, .int home] (sh, I, L, R) (QMh sh R J dv.toInt ma.toInt.toNat mc.toInt.toNat I done home)) (ht : 0 ≤ t.toInt ∧ t.toInt < mc.toInt) (hw : wOK (mkT vV []) (wE sh R) (sh, I, L, R)) (hf : fresh (sh, I, L, R)) (hkp : ∀ q k, inm mdMh q k = false → I q k = I0 q k) (hk154 : ∀ k, k < done.toInt.toNat → I 154 k = I0 154 k) (hz2 : bsM I = upY (yyMP (yyG ma.toInt.toNat mc.toInt.toNat (vRow J 135 148) (vRow J 136 148) dv.toInt (vxM I0 ma.toInt.toNat) s) (yyH ma.toInt.toNat mc.toInt.toNat (vRow J 135 148) (vRow J 136 148) dv.toInt (vxM I0 ma.toInt.toNat) s) t.toInt.toNat).1 (yyMP (yyG ma.toInt.toNat mc.toInt.toNat (vRow J 135 148) (vRow J 136 148) dv.toInt (vxM I0 ma.toInt.toNat) s) (yyH ma.toInt.toNat mc.toInt.toNat (vRow J 135 148) (vRow J 136 148) dv.toInt (vxM I0 ma.toInt.toNat) s) t.toInt.toNat).2 home.toInt (rwL I0 154 done.toInt.toNat) p0) (egy : gb.toInt = yyBy (vRow J 135 148) (vxM I0 ma.toInt.toNat) s t.toInt.toNat) (hpos : 0 < gb.toInt) (K : ∀ {I : Nat → Nat → Int32} {L : Nat → Nat → Int64}, wOK (mkT vV []) (wE sh R) (sh, I, L, R) → fresh (sh, I, L, R) → (∀ q k, inm mdMh q k = false → I q k = I0 q k) → (∀ k, k < done.toInt.toNat → I 154 k = I0 154 k) → bsM I = upY (yyMP (yyG ma.toInt.toNat mc.toInt.toNat (vRow J 135 148) (vRow J 136 148) dv.toInt (vxM I0 ma.toInt.toNat) s) (yyH ma.toInt.toNat mc.toInt.toNat (vRow J 135 148) (vRow J 136 148) dv.toInt (vxM I0 ma.toInt.toNat) s) (t.toInt.toNat + 1)).1 (yyMP (yyG ma.toInt.toNat mc.toInt.toNat (vRow J 135 148) (vRow J 136 148) dv.toInt (vxM I0 ma.toInt.toNat) s) (yyH ma.toInt.toNat mc.toInt.toNat (vRow J 135 148) (vRow J 136 148) dv.toInt (vxM I0 ma.toInt.toNat) s) (t.toInt.toNat + 1)).2 home.toInt (rwL I0 154 done.toInt.toNat) p0 → ∀ gb : Int32, XW 335 mr_335 none (d + 2 + zz + 1) 0 0 Q (258, [(6, .int gb), (5, .int t), (4, .int y), (3, .int home), (2, .int done), (1, .int dv), (0, .ref 94)], [], (sh, I, L, R))) : XW 335 mr_335 none (d + 2 + zz + 1) 0 0 Q (142, [(5, .int t), (4, .int y), (3, .int home), (2, .int done), (1, .int dv), (0, .ref 94)], [.int gb], (sh, I, L, R)) := by
  have c94 : sh[94]? = some (.inr 12) := hw.1 94 _ rfl
  have c136 : sh[136]? = some (.inl (.int, 16)) := hw.1 136 _ rfl
  have c148 : sh[148]? = some (.inl (.int, 3)) := hw.1 148 _ rfl
  have c150 : sh[150]? = some (.inl (.int, 3)) := hw.1 150 _ rfl
  have c151 : sh[151]? = some (.inl (.int, 3)) := hw.1 151 _ rfl
  have c152 : sh[152]? = some (.inl (.int, 3)) := hw.1 152 _ rfl
  have c154 : sh[154]? = some (.inl (.int, 12)) := hw.1 154 _ rfl
  have r94_62 : R 94 62 = some 136 := hw.2.1 94 62 _ rfl
  have r94_80 : R 94 80 = some 148 := hw.2.1 94 80 _ rfl
  have r94_83 : R 94 83 = some 150 := hw.2.1 94 83 _ rfl
  have r94_84 : R 94 84 = some 151 := hw.2.1 94 84 _ rfl
  have r94_85 : R 94 85 = some 152 := hw.2.1 94 85 _ rfl
  have r94_87 : R 94 87 = some 154 := hw.2.1 94 87 _ rfl
  have z1 : (1 : Int32).toInt = 1 := rfl
  have z2 : (2 : Int32).toInt = 2 := rfl
  obtain ⟨⟨hc2, hc3J⟩, ha, hc', hS4⟩ := id hS
  obtain ⟨d1, d2, d3, d4, d5⟩ := id hD
  obtain ⟨q1, q2, -⟩ := yyChs_some hs
  obtain ⟨q3, q4, -⟩ := yyEl_of q2
  have hbs := hS4 s (by omega)
  have hPs : vRow J 136 148 s = (J 136 (J 148 s).toNatClampNeg).toInt := vRow_of hbs.2.1
  have hBs : vRow J 135 148 s = (J 135 (J 148 s).toNatClampNeg).toInt := vRow_of hbs.1.1
  have hfr0 := frM_rng hS hD (k := s) (by omega)
  have dS := d1 s (by omega)
  have ecs : (vxM I0 ma.toInt.toNat).2.1 s = (I0 152 s).toInt := if_pos q1
  have hN1 := yyNu_one (x := (vxM I0 ma.toInt.toNat)) (fun k => (dyM_c hD k).2) q3 q4 q1
  have hTn := yyT_nn (W := (vxM I0 ma.toInt.toNat).1) (n := mc.toInt.toNat) (dyM_w hD)
  have ey : (y).toNatClampNeg = s := by show y.toInt.toNat = s; omega
  have hc3I : I 94 81 = mc := (hkp 94 81 rfl).trans ((hkp0 94 81 rfl).trans hc3J)
  obtain ⟨w, ew⟩ : ∃ z : Int32, I 150 (t).toNatClampNeg = z := ⟨_, rfl⟩
  obtain ⟨cv, ecv⟩ : ∃ z : Int32, I 152 (y).toNatClampNeg = z := ⟨_, rfl⟩
  obtain ⟨fv, efv⟩ : ∃ z : Int32, I 151 (y).toNatClampNeg = z := ⟨_, rfl⟩
  obtain ⟨sv, esv⟩ : ∃ z : Int32, I 148 (y).toNatClampNeg = z := ⟨_, rfl⟩
  obtain ⟨py, epy⟩ : ∃ z : Int32, I 136 (sv).toNatClampNeg = z := ⟨_, rfl⟩
  have hxw : (vxM I0 ma.toInt.toNat).1 t.toInt.toNat = w.toInt := by
    show (I0 150 (t).toNatClampNeg).toInt = w.toInt
    rw [← ew, hkp 150 _ rfl]
  have hcv : cv.toInt = (I0 152 s).toInt := by rw [← ecv, ey, hkp 152 _ rfl]
  have hfv : fv.toInt = (I0 151 s).toInt := by rw [← efv, ey, hkp 151 _ rfl]
  have esj : sv = J 148 s := by rw [← esv, ey, hkp 148 _ rfl]; exact hkp0 148 s rfl
  have hpy : py.toInt = vRow J 136 148 s := by
    rw [← epy, esj, hkp 136 _ rfl, hkp0 136 _ rfl]
    exact (vRow_of hbs.2.1).symm
  have hpy2 : (2 * py).toInt = 2 * vRow J 136 148 s := by
    rw [← hpy]
    exact mul_i (a := 2) (b := py) (by show lo32 ≤ 2 * py.toInt; unfold lo32; omega) (by show 2 * py.toInt ≤ hi32; unfold hi32; omega)
  have hwl := yyT_le (W := (vxM I0 ma.toInt.toNat).1) (p := t.toInt.toNat) (dyM_w hD) (by omega)
  have hw1 := dyM_w hD t.toInt.toNat (by omega)
  rw [hxw] at hwl hw1
  have hby : gb.toInt ≤ w.toInt ∧ gb.toInt ≤ vRow J 135 148 s := by
    rw [egy]
    unfold yyBy
    rw [hxw]
    split <;> omega
  refine XW.fam (S' := (144, [(6, .int gb), (5, .int t), (4, .int y), (3, .int home), (2, .int done), (1, .int dv), (0, .ref 94)], [], (sh, I, L, R))) (M := mr_335) rfl (show mcode 335 142 = some (142, .istore 6, 2, 0, 0, 0, _) from rfl) (Or.inr (Or.inr (Or.inr (Or.inr (Or.inr (Or.inr (Or.inl ⟨_, [], _, rfl, rfl, rfl⟩))))))) ?_
  refine XW.fam (S' := (145, [(6, .int gb), (5, .int t), (4, .int y), (3, .int home), (2, .int done), (1, .int dv), (0, .ref 94)], [.ref 94], (sh, I, L, R))) (M := mr_335) rfl (show mcode 335 144 = some (144, .aload_n 0, 1, 0, 0, 0, _) from rfl) (Or.inl ⟨.ref 94, rfl, rfl⟩) ?_
  refine XW.fam (S' := (148, [(6, .int gb), (5, .int t), (4, .int y), (3, .int home), (2, .int done), (1, .int dv), (0, .ref 94)], [.ref 154], (sh, I, L, R))) (M := mr_335) rfl (show mcode 335 145 = some (145, .getfield 196, 3, 12, 87, 0, _) from rfl) (Or.inr (Or.inr (Or.inr (Or.inr (Or.inr (Or.inr (Or.inr (Or.inl ⟨_, _, rfl, fl_ld c94 r94_87 (by decide) (by decide), rfl⟩)))))))) ?_
  refine XW.fam (S' := (149, [(6, .int gb), (5, .int t), (4, .int y), (3, .int home), (2, .int done), (1, .int dv), (0, .ref 94)], [.int done, .ref 154], (sh, I, L, R))) (M := mr_335) rfl (show mcode 335 148 = some (148, .iload_n 2, 1, 0, 0, 0, _) from rfl) (Or.inl ⟨.int done, rfl, rfl⟩) ?_
  refine XW.fam (S' := (151, [(6, .int gb), (5, .int t), (4, .int y), (3, .int home), (2, .int done), (1, .int dv), (0, .ref 94)], [.int t, .int done, .ref 154], (sh, I, L, R))) (M := mr_335) rfl (show mcode 335 149 = some (149, .iload 5, 2, 0, 0, 0, _) from rfl) (Or.inl ⟨.int t, rfl, rfl⟩) ?_
  have hin1 : inR done 12 = true := inR_of (by omega) (by omega)
  obtain ⟨I2, eI2⟩ : ∃ X, X = up2 I 154 (done).toNatClampNeg t := ⟨_, rfl⟩
  refine XW.fam (S' := (152, [(6, .int gb), (5, .int t), (4, .int y), (3, .int home), (2, .int done), (1, .int dv), (0, .ref 94)], [], (sh, I2, L, R))) (M := mr_335) rfl (show mcode 335 151 = some (151, .iastore, 1, 0, 0, 0, _) from rfl) (Or.inr (Or.inr (Or.inr (Or.inl ⟨_, _, by rw [eI2]; exact sta_i c154 hin1, rfl⟩)))) ?_
  have hwI2 : wOK (mkT vV []) (wE sh R) (sh, I2, L, R) := by rw [eI2]; exact wOK_u2 (q := 154) (k := (done).toNatClampNeg) (x := t) wE_put hw rfl (by show (0 : Int) ≤ _; omega) (by show _ ≤ (9 : Int); omega)
  have hfI2 : fresh (sh, I2, L, R) := by rw [eI2]; exact fresh_I hf c154
  have v3 : I2 94 81 = mc := by rw [eI2, up2_ne (fun e => by cases e.1)]; exact hc3I
  have v4 : I2 150 (t).toNatClampNeg = w := by rw [eI2, up2_ne (fun e => by cases e.1)]; exact ew
  have v5 : I2 152 (y).toNatClampNeg = cv := by rw [eI2, up2_ne (fun e => by cases e.1)]; exact ecv
  have v6 : I2 151 (y).toNatClampNeg = fv := by rw [eI2, up2_ne (fun e => by cases e.1)]; exact efv
  have v7 : I2 148 (y).toNatClampNeg = sv := by rw [eI2, up2_ne (fun e => by cases e.1)]; exact esv
  have v8 : I2 136 (sv).toNatClampNeg = py := by rw [eI2, up2_ne (fun e => by cases e.1)]; exact epy
  have v9 : I2 154 (done).toNatClampNeg = t := by rw [eI2]; exact up2_eq
  refine XW.fam (S' := (153, [(6, .int gb), (5, .int t), (4, .int y), (3, .int home), (2, .int done), (1, .int dv), (0, .ref 94)], [.ref 94], (sh, I2, L, R))) (M := mr_335) rfl (show mcode 335 152 = some (152, .aload_n 0, 1, 0, 0, 0, _) from rfl) (Or.inl ⟨.ref 94, rfl, rfl⟩) ?_
  refine XW.fam (S' := (156, [(6, .int gb), (5, .int t), (4, .int y), (3, .int home), (2, .int done), (1, .int dv), (0, .ref 94)], [.ref 150], (sh, I2, L, R))) (M := mr_335) rfl (show mcode 335 153 = some (153, .getfield 184, 3, 12, 83, 0, _) from rfl) (Or.inr (Or.inr (Or.inr (Or.inr (Or.inr (Or.inr (Or.inr (Or.inl ⟨_, _, rfl, fl_ld c94 r94_83 (by decide) (by decide), rfl⟩)))))))) ?_
  refine XW.fam (S' := (158, [(6, .int gb), (5, .int t), (4, .int y), (3, .int home), (2, .int done), (1, .int dv), (0, .ref 94)], [.int t, .ref 150], (sh, I2, L, R))) (M := mr_335) rfl (show mcode 335 156 = some (156, .iload 5, 2, 0, 0, 0, _) from rfl) (Or.inl ⟨.int t, rfl, rfl⟩) ?_
  refine XW.fam (S' := (159, [(6, .int gb), (5, .int t), (4, .int y), (3, .int home), (2, .int done), (1, .int dv), (0, .ref 94)], [.int t, .ref 150, .int t, .ref 150], (sh, I2, L, R))) (M := mr_335) rfl (show mcode 335 158 = some (158, .dup2, 1, 0, 0, 0, _) from rfl) (Or.inr (Or.inr (Or.inr (Or.inr (Or.inr (Or.inl ⟨_, rfl, rfl⟩)))))) ?_
  have hin10 : inR t 3 = true := inR_of (by omega) (by omega)
  refine XW.fam (S' := (160, [(6, .int gb), (5, .int t), (4, .int y), (3, .int home), (2, .int done), (1, .int dv), (0, .ref 94)], [.int (I2 150 (t).toNatClampNeg), .int t, .ref 150], (sh, I2, L, R))) (M := mr_335) rfl (show mcode 335 159 = some (159, .iaload, 1, 0, 0, 0, _) from rfl) (Or.inr (Or.inr (Or.inl ⟨_, lda_i c150 hin10, rfl⟩))) ?_
  rw [v4]
  refine XW.fam (S' := (162, [(6, .int gb), (5, .int t), (4, .int y), (3, .int home), (2, .int done), (1, .int dv), (0, .ref 94)], [.int gb, .int w, .int t, .ref 150], (sh, I2, L, R))) (M := mr_335) rfl (show mcode 335 160 = some (160, .iload 6, 2, 0, 0, 0, _) from rfl) (Or.inl ⟨.int gb, rfl, rfl⟩) ?_
  refine XW.fam (S' := (163, [(6, .int gb), (5, .int t), (4, .int y), (3, .int home), (2, .int done), (1, .int dv), (0, .ref 94)], [.int (w - gb), .int t, .ref 150], (sh, I2, L, R))) (M := mr_335) rfl (show mcode 335 162 = some (162, .isub, 1, 0, 0, 0, _) from rfl) (Or.inr (Or.inr (Or.inr (Or.inr (Or.inr (Or.inl ⟨_, rfl, rfl⟩)))))) ?_
  have hin11 : inR t 3 = true := inR_of (by omega) (by omega)
  obtain ⟨I12, eI12⟩ : ∃ X, X = up2 I2 150 (t).toNatClampNeg (w - gb) := ⟨_, rfl⟩
  refine XW.fam (S' := (164, [(6, .int gb), (5, .int t), (4, .int y), (3, .int home), (2, .int done), (1, .int dv), (0, .ref 94)], [], (sh, I12, L, R))) (M := mr_335) rfl (show mcode 335 163 = some (163, .iastore, 1, 0, 0, 0, _) from rfl) (Or.inr (Or.inr (Or.inr (Or.inl ⟨_, _, by rw [eI12]; exact sta_i c150 hin11, rfl⟩)))) ?_
  have xb := i32b ((w - gb))
  unfold lo32 hi32 at xb
  have hwI12 : wOK (mkT vV []) (wE sh R) (sh, I12, L, R) := by rw [eI12]; exact wOK_u2 (q := 150) (k := (t).toNatClampNeg) (x := (w - gb)) wE_put hwI2 rfl (by show ((-2147483648) : Int) ≤ _; omega) (by show _ ≤ (2147483647 : Int); omega)
  have hfI12 : fresh (sh, I12, L, R) := by rw [eI12]; exact fresh_I hfI2 c150
  have v13 : I12 94 81 = mc := by rw [eI12, up2_ne (fun e => by cases e.1)]; exact v3
  have v15 : I12 152 (y).toNatClampNeg = cv := by rw [eI12, up2_ne (fun e => by cases e.1)]; exact v5
  have v16 : I12 151 (y).toNatClampNeg = fv := by rw [eI12, up2_ne (fun e => by cases e.1)]; exact v6
  have v17 : I12 148 (y).toNatClampNeg = sv := by rw [eI12, up2_ne (fun e => by cases e.1)]; exact v7
  have v18 : I12 136 (sv).toNatClampNeg = py := by rw [eI12, up2_ne (fun e => by cases e.1)]; exact v8
  have v19 : I12 154 (done).toNatClampNeg = t := by rw [eI12, up2_ne (fun e => by cases e.1)]; exact v9
  have v20 : I12 150 (t).toNatClampNeg = (w - gb) := by rw [eI12]; exact up2_eq
  refine XW.fam (S' := (165, [(6, .int gb), (5, .int t), (4, .int y), (3, .int home), (2, .int done), (1, .int dv), (0, .ref 94)], [.ref 94], (sh, I12, L, R))) (M := mr_335) rfl (show mcode 335 164 = some (164, .aload_n 0, 1, 0, 0, 0, _) from rfl) (Or.inl ⟨.ref 94, rfl, rfl⟩) ?_
  refine XW.fam (S' := (168, [(6, .int gb), (5, .int t), (4, .int y), (3, .int home), (2, .int done), (1, .int dv), (0, .ref 94)], [.ref 152], (sh, I12, L, R))) (M := mr_335) rfl (show mcode 335 165 = some (165, .getfield 190, 3, 12, 85, 0, _) from rfl) (Or.inr (Or.inr (Or.inr (Or.inr (Or.inr (Or.inr (Or.inr (Or.inl ⟨_, _, rfl, fl_ld c94 r94_85 (by decide) (by decide), rfl⟩)))))))) ?_
  refine XW.fam (S' := (170, [(6, .int gb), (5, .int t), (4, .int y), (3, .int home), (2, .int done), (1, .int dv), (0, .ref 94)], [.int y, .ref 152], (sh, I12, L, R))) (M := mr_335) rfl (show mcode 335 168 = some (168, .iload 4, 2, 0, 0, 0, _) from rfl) (Or.inl ⟨.int y, rfl, rfl⟩) ?_
  refine XW.fam (S' := (171, [(6, .int gb), (5, .int t), (4, .int y), (3, .int home), (2, .int done), (1, .int dv), (0, .ref 94)], [.int y, .ref 152, .int y, .ref 152], (sh, I12, L, R))) (M := mr_335) rfl (show mcode 335 170 = some (170, .dup2, 1, 0, 0, 0, _) from rfl) (Or.inr (Or.inr (Or.inr (Or.inr (Or.inr (Or.inl ⟨_, rfl, rfl⟩)))))) ?_
  have hin21 : inR y 3 = true := inR_of (by omega) (by omega)
  refine XW.fam (S' := (172, [(6, .int gb), (5, .int t), (4, .int y), (3, .int home), (2, .int done), (1, .int dv), (0, .ref 94)], [.int (I12 152 (y).toNatClampNeg), .int y, .ref 152], (sh, I12, L, R))) (M := mr_335) rfl (show mcode 335 171 = some (171, .iaload, 1, 0, 0, 0, _) from rfl) (Or.inr (Or.inr (Or.inl ⟨_, lda_i c152 hin21, rfl⟩))) ?_
  rw [v15]
  refine XW.fam (S' := (173, [(6, .int gb), (5, .int t), (4, .int y), (3, .int home), (2, .int done), (1, .int dv), (0, .ref 94)], [.int 1, .int cv, .int y, .ref 152], (sh, I12, L, R))) (M := mr_335) rfl (show mcode 335 172 = some (172, .iconst 1, 1, 0, 0, 0, _) from rfl) (Or.inl ⟨.int 1, rfl, rfl⟩) ?_
  refine XW.fam (S' := (174, [(6, .int gb), (5, .int t), (4, .int y), (3, .int home), (2, .int done), (1, .int dv), (0, .ref 94)], [.int (cv + 1), .int y, .ref 152], (sh, I12, L, R))) (M := mr_335) rfl (show mcode 335 173 = some (173, .iadd, 1, 0, 0, 0, _) from rfl) (Or.inr (Or.inr (Or.inr (Or.inr (Or.inr (Or.inl ⟨_, rfl, rfl⟩)))))) ?_
  have hin22 : inR y 3 = true := inR_of (by omega) (by omega)
  obtain ⟨I23, eI23⟩ : ∃ X, X = up2 I12 152 (y).toNatClampNeg (cv + 1) := ⟨_, rfl⟩
  refine XW.fam (S' := (175, [(6, .int gb), (5, .int t), (4, .int y), (3, .int home), (2, .int done), (1, .int dv), (0, .ref 94)], [], (sh, I23, L, R))) (M := mr_335) rfl (show mcode 335 174 = some (174, .iastore, 1, 0, 0, 0, _) from rfl) (Or.inr (Or.inr (Or.inr (Or.inl ⟨_, _, by rw [eI23]; exact sta_i c152 hin22, rfl⟩)))) ?_
  have xc := inc32 (m := cv) (by omega) (by omega)
  have hwI23 : wOK (mkT vV []) (wE sh R) (sh, I23, L, R) := by rw [eI23]; exact wOK_u2 (q := 152) (k := (y).toNatClampNeg) (x := (cv + 1)) wE_put hwI12 rfl (by show (0 : Int) ≤ _; omega) (by show _ ≤ (3 : Int); omega)
  have hfI23 : fresh (sh, I23, L, R) := by rw [eI23]; exact fresh_I hfI12 c152
  have v24 : I23 94 81 = mc := by rw [eI23, up2_ne (fun e => by cases e.1)]; exact v13
  have v26 : I23 151 (y).toNatClampNeg = fv := by rw [eI23, up2_ne (fun e => by cases e.1)]; exact v16
  have v27 : I23 148 (y).toNatClampNeg = sv := by rw [eI23, up2_ne (fun e => by cases e.1)]; exact v17
  have v28 : I23 136 (sv).toNatClampNeg = py := by rw [eI23, up2_ne (fun e => by cases e.1)]; exact v18
  have v29 : I23 154 (done).toNatClampNeg = t := by rw [eI23, up2_ne (fun e => by cases e.1)]; exact v19
  have v30 : I23 150 (t).toNatClampNeg = (w - gb) := by rw [eI23, up2_ne (fun e => by cases e.1)]; exact v20
  have v31 : I23 152 (y).toNatClampNeg = (cv + 1) := by rw [eI23]; exact up2_eq
  refine XW.fam (S' := (176, [(6, .int gb), (5, .int t), (4, .int y), (3, .int home), (2, .int done), (1, .int dv), (0, .ref 94)], [.ref 94], (sh, I23, L, R))) (M := mr_335) rfl (show mcode 335 175 = some (175, .aload_n 0, 1, 0, 0, 0, _) from rfl) (Or.inl ⟨.ref 94, rfl, rfl⟩) ?_
  refine XW.fam (S' := (179, [(6, .int gb), (5, .int t), (4, .int y), (3, .int home), (2, .int done), (1, .int dv), (0, .ref 94)], [.ref 151], (sh, I23, L, R))) (M := mr_335) rfl (show mcode 335 176 = some (176, .getfield 187, 3, 12, 84, 0, _) from rfl) (Or.inr (Or.inr (Or.inr (Or.inr (Or.inr (Or.inr (Or.inr (Or.inl ⟨_, _, rfl, fl_ld c94 r94_84 (by decide) (by decide), rfl⟩)))))))) ?_
  refine XW.fam (S' := (181, [(6, .int gb), (5, .int t), (4, .int y), (3, .int home), (2, .int done), (1, .int dv), (0, .ref 94)], [.int y, .ref 151], (sh, I23, L, R))) (M := mr_335) rfl (show mcode 335 179 = some (179, .iload 4, 2, 0, 0, 0, _) from rfl) (Or.inl ⟨.int y, rfl, rfl⟩) ?_
  refine XW.fam (S' := (182, [(6, .int gb), (5, .int t), (4, .int y), (3, .int home), (2, .int done), (1, .int dv), (0, .ref 94)], [.int y, .ref 151, .int y, .ref 151], (sh, I23, L, R))) (M := mr_335) rfl (show mcode 335 181 = some (181, .dup2, 1, 0, 0, 0, _) from rfl) (Or.inr (Or.inr (Or.inr (Or.inr (Or.inr (Or.inl ⟨_, rfl, rfl⟩)))))) ?_
  have hin32 : inR y 3 = true := inR_of (by omega) (by omega)
  refine XW.fam (S' := (183, [(6, .int gb), (5, .int t), (4, .int y), (3, .int home), (2, .int done), (1, .int dv), (0, .ref 94)], [.int (I23 151 (y).toNatClampNeg), .int y, .ref 151], (sh, I23, L, R))) (M := mr_335) rfl (show mcode 335 182 = some (182, .iaload, 1, 0, 0, 0, _) from rfl) (Or.inr (Or.inr (Or.inl ⟨_, lda_i c151 hin32, rfl⟩))) ?_
  rw [v26]
  refine XW.fam (S' := (184, [(6, .int gb), (5, .int t), (4, .int y), (3, .int home), (2, .int done), (1, .int dv), (0, .ref 94)], [.int 2, .int fv, .int y, .ref 151], (sh, I23, L, R))) (M := mr_335) rfl (show mcode 335 183 = some (183, .iconst 2, 1, 0, 0, 0, _) from rfl) (Or.inl ⟨.int 2, rfl, rfl⟩) ?_
  refine XW.fam (S' := (185, [(6, .int gb), (5, .int t), (4, .int y), (3, .int home), (2, .int done), (1, .int dv), (0, .ref 94)], [.ref 94, .int 2, .int fv, .int y, .ref 151], (sh, I23, L, R))) (M := mr_335) rfl (show mcode 335 184 = some (184, .aload_n 0, 1, 0, 0, 0, _) from rfl) (Or.inl ⟨.ref 94, rfl, rfl⟩) ?_
  refine XW.fam (S' := (188, [(6, .int gb), (5, .int t), (4, .int y), (3, .int home), (2, .int done), (1, .int dv), (0, .ref 94)], [.ref 136, .int 2, .int fv, .int y, .ref 151], (sh, I23, L, R))) (M := mr_335) rfl (show mcode 335 185 = some (185, .getfield 139, 3, 12, 62, 0, _) from rfl) (Or.inr (Or.inr (Or.inr (Or.inr (Or.inr (Or.inr (Or.inr (Or.inl ⟨_, _, rfl, fl_ld c94 r94_62 (by decide) (by decide), rfl⟩)))))))) ?_
  refine XW.fam (S' := (189, [(6, .int gb), (5, .int t), (4, .int y), (3, .int home), (2, .int done), (1, .int dv), (0, .ref 94)], [.ref 94, .ref 136, .int 2, .int fv, .int y, .ref 151], (sh, I23, L, R))) (M := mr_335) rfl (show mcode 335 188 = some (188, .aload_n 0, 1, 0, 0, 0, _) from rfl) (Or.inl ⟨.ref 94, rfl, rfl⟩) ?_
  refine XW.fam (S' := (192, [(6, .int gb), (5, .int t), (4, .int y), (3, .int home), (2, .int done), (1, .int dv), (0, .ref 94)], [.ref 148, .ref 136, .int 2, .int fv, .int y, .ref 151], (sh, I23, L, R))) (M := mr_335) rfl (show mcode 335 189 = some (189, .getfield 178, 3, 12, 80, 0, _) from rfl) (Or.inr (Or.inr (Or.inr (Or.inr (Or.inr (Or.inr (Or.inr (Or.inl ⟨_, _, rfl, fl_ld c94 r94_80 (by decide) (by decide), rfl⟩)))))))) ?_
  refine XW.fam (S' := (194, [(6, .int gb), (5, .int t), (4, .int y), (3, .int home), (2, .int done), (1, .int dv), (0, .ref 94)], [.int y, .ref 148, .ref 136, .int 2, .int fv, .int y, .ref 151], (sh, I23, L, R))) (M := mr_335) rfl (show mcode 335 192 = some (192, .iload 4, 2, 0, 0, 0, _) from rfl) (Or.inl ⟨.int y, rfl, rfl⟩) ?_
  have hin33 : inR y 3 = true := inR_of (by omega) (by omega)
  refine XW.fam (S' := (195, [(6, .int gb), (5, .int t), (4, .int y), (3, .int home), (2, .int done), (1, .int dv), (0, .ref 94)], [.int (I23 148 (y).toNatClampNeg), .ref 136, .int 2, .int fv, .int y, .ref 151], (sh, I23, L, R))) (M := mr_335) rfl (show mcode 335 194 = some (194, .iaload, 1, 0, 0, 0, _) from rfl) (Or.inr (Or.inr (Or.inl ⟨_, lda_i c148 hin33, rfl⟩))) ?_
  rw [v27]
  have h148hin34 : 0 ≤ (sv).toInt ∧ (sv).toInt ≤ 15 := by rw [← esv]; exact hw.2.2.1 148 _
  have hin34 : inR sv 16 = true := inR_of (by omega) (by omega)
  refine XW.fam (S' := (196, [(6, .int gb), (5, .int t), (4, .int y), (3, .int home), (2, .int done), (1, .int dv), (0, .ref 94)], [.int (I23 136 (sv).toNatClampNeg), .int 2, .int fv, .int y, .ref 151], (sh, I23, L, R))) (M := mr_335) rfl (show mcode 335 195 = some (195, .iaload, 1, 0, 0, 0, _) from rfl) (Or.inr (Or.inr (Or.inl ⟨_, lda_i c136 hin34, rfl⟩))) ?_
  rw [v28]
  refine XW.fam (S' := (197, [(6, .int gb), (5, .int t), (4, .int y), (3, .int home), (2, .int done), (1, .int dv), (0, .ref 94)], [.int (2 * py), .int fv, .int y, .ref 151], (sh, I23, L, R))) (M := mr_335) rfl (show mcode 335 196 = some (196, .imul, 1, 0, 0, 0, _) from rfl) (Or.inr (Or.inr (Or.inr (Or.inr (Or.inr (Or.inl ⟨_, rfl, rfl⟩)))))) ?_
  refine XW.fam (S' := (198, [(6, .int gb), (5, .int t), (4, .int y), (3, .int home), (2, .int done), (1, .int dv), (0, .ref 94)], [.int (fv + (2 * py)), .int y, .ref 151], (sh, I23, L, R))) (M := mr_335) rfl (show mcode 335 197 = some (197, .iadd, 1, 0, 0, 0, _) from rfl) (Or.inr (Or.inr (Or.inr (Or.inr (Or.inr (Or.inl ⟨_, rfl, rfl⟩)))))) ?_
  have hin35 : inR y 3 = true := inR_of (by omega) (by omega)
  obtain ⟨I36, eI36⟩ : ∃ X, X = up2 I23 151 (y).toNatClampNeg (fv + (2 * py)) := ⟨_, rfl⟩
  refine XW.fam (S' := (199, [(6, .int gb), (5, .int t), (4, .int y), (3, .int home), (2, .int done), (1, .int dv), (0, .ref 94)], [], (sh, I36, L, R))) (M := mr_335) rfl (show mcode 335 198 = some (198, .iastore, 1, 0, 0, 0, _) from rfl) (Or.inr (Or.inr (Or.inr (Or.inl ⟨_, _, by rw [eI36]; exact sta_i c151 hin35, rfl⟩)))) ?_
  have xb := i32b ((fv + (2 * py)))
  unfold lo32 hi32 at xb
  have hwI36 : wOK (mkT vV []) (wE sh R) (sh, I36, L, R) := by rw [eI36]; exact wOK_u2 (q := 151) (k := (y).toNatClampNeg) (x := (fv + (2 * py))) wE_put hwI23 rfl (by show ((-2147483648) : Int) ≤ _; omega) (by show _ ≤ (2147483647 : Int); omega)
  have hfI36 : fresh (sh, I36, L, R) := by rw [eI36]; exact fresh_I hfI23 c151
  have v37 : I36 94 81 = mc := by rw [eI36, up2_ne (fun e => by cases e.1)]; exact v24
  have v39 : I36 148 (y).toNatClampNeg = sv := by rw [eI36, up2_ne (fun e => by cases e.1)]; exact v27
  have v40 : I36 136 (sv).toNatClampNeg = py := by rw [eI36, up2_ne (fun e => by cases e.1)]; exact v28
  have v41 : I36 154 (done).toNatClampNeg = t := by rw [eI36, up2_ne (fun e => by cases e.1)]; exact v29
  have v42 : I36 150 (t).toNatClampNeg = (w - gb) := by rw [eI36, up2_ne (fun e => by cases e.1)]; exact v30
  have v43 : I36 152 (y).toNatClampNeg = (cv + 1) := by rw [eI36, up2_ne (fun e => by cases e.1)]; exact v31
  have v44 : I36 151 (y).toNatClampNeg = (fv + (2 * py)) := by rw [eI36]; exact up2_eq
  refine XW.fam (S' := (200, [(6, .int gb), (5, .int t), (4, .int y), (3, .int home), (2, .int done), (1, .int dv), (0, .ref 94)], [.ref 94], (sh, I36, L, R))) (M := mr_335) rfl (show mcode 335 199 = some (199, .aload_n 0, 1, 0, 0, 0, _) from rfl) (Or.inl ⟨.ref 94, rfl, rfl⟩) ?_
  refine XW.fam (S' := (201, [(6, .int gb), (5, .int t), (4, .int y), (3, .int home), (2, .int done), (1, .int dv), (0, .ref 94)], [.int dv, .ref 94], (sh, I36, L, R))) (M := mr_335) rfl (show mcode 335 200 = some (200, .iload_n 1, 1, 0, 0, 0, _) from rfl) (Or.inl ⟨.int dv, rfl, rfl⟩) ?_
  refine XW.fam (S' := (202, [(6, .int gb), (5, .int t), (4, .int y), (3, .int home), (2, .int done), (1, .int dv), (0, .ref 94)], [.int done, .int dv, .ref 94], (sh, I36, L, R))) (M := mr_335) rfl (show mcode 335 201 = some (201, .iload_n 2, 1, 0, 0, 0, _) from rfl) (Or.inl ⟨.int done, rfl, rfl⟩) ?_
  refine XW.fam (S' := (203, [(6, .int gb), (5, .int t), (4, .int y), (3, .int home), (2, .int done), (1, .int dv), (0, .ref 94)], [.int 1, .int done, .int dv, .ref 94], (sh, I36, L, R))) (M := mr_335) rfl (show mcode 335 202 = some (202, .iconst 1, 1, 0, 0, 0, _) from rfl) (Or.inl ⟨.int 1, rfl, rfl⟩) ?_
  refine XW.fam (S' := (204, [(6, .int gb), (5, .int t), (4, .int y), (3, .int home), (2, .int done), (1, .int dv), (0, .ref 94)], [.int (done + 1), .int dv, .ref 94], (sh, I36, L, R))) (M := mr_335) rfl (show mcode 335 203 = some (203, .iadd, 1, 0, 0, 0, _) from rfl) (Or.inr (Or.inr (Or.inr (Or.inr (Or.inr (Or.inl ⟨_, rfl, rfl⟩)))))) ?_
  refine XW.fam (S' := (205, [(6, .int gb), (5, .int t), (4, .int y), (3, .int home), (2, .int done), (1, .int dv), (0, .ref 94)], [.int home, .int (done + 1), .int dv, .ref 94], (sh, I36, L, R))) (M := mr_335) rfl (show mcode 335 204 = some (204, .iload_n 3, 1, 0, 0, 0, _) from rfl) (Or.inl ⟨.int home, rfl, rfl⟩) ?_
  refine XW.fam (S' := (207, [(6, .int gb), (5, .int t), (4, .int y), (3, .int home), (2, .int done), (1, .int dv), (0, .ref 94)], [.int gb, .int home, .int (done + 1), .int dv, .ref 94], (sh, I36, L, R))) (M := mr_335) rfl (show mcode 335 205 = some (205, .iload 6, 2, 0, 0, 0, _) from rfl) (Or.inl ⟨.int gb, rfl, rfl⟩) ?_
  refine XW.fam (S' := (208, [(6, .int gb), (5, .int t), (4, .int y), (3, .int home), (2, .int done), (1, .int dv), (0, .ref 94)], [.int (home + gb), .int (done + 1), .int dv, .ref 94], (sh, I36, L, R))) (M := mr_335) rfl (show mcode 335 207 = some (207, .iadd, 1, 0, 0, 0, _) from rfl) (Or.inr (Or.inr (Or.inr (Or.inr (Or.inr (Or.inl ⟨_, rfl, rfl⟩)))))) ?_
  have tn : (t).toNatClampNeg = t.toInt.toNat := rfl
  have mdn : (done).toNatClampNeg = done.toInt.toNat := rfl
  have f1 := inc32 (m := done) (by omega) (by omega)
  have f2 := sumS (a := home) (b := gb) (by omega) (by omega)
  have f5 := difS (a := w) (b := gb) (by omega) (by omega)
  have f6 := inc32 (m := cv) (by omega) (by omega)
  have f7 := sumS (a := fv) (b := 2 * py) (by omega) (by omega)
  have kI : ∀ q k, ¬ q = 154 → ¬ (q = 150 ∧ k = t.toInt.toNat) → ¬ (q = 152 ∧ k = s) → ¬ (q = 151 ∧ k = s) → inm mdMh q k = false → I36 q k = I0 q k := by
    intro q k a1 a2 a3 a4 a5
    rw [eI36, up2_ne (fun e => a4 ⟨e.1, by rw [e.2, ey]⟩), eI23, up2_ne (fun e => a3 ⟨e.1, by rw [e.2, ey]⟩), eI12, up2_ne (fun e => a2 ⟨e.1, by exact e.2⟩), eI2, up2_ne (fun e => a1 e.1)]
    exact hkp q k a5
  have v150 : I36 150 t.toInt.toNat = w - gb := by rw [← tn, eI36, up2_ne (fun e => by cases e.1), eI23, up2_ne (fun e => by cases e.1), eI12]; exact up2_eq
  have v152 : I36 152 s = cv + 1 := by rw [← ey, eI36, up2_ne (fun e => by cases e.1), eI23]; exact up2_eq
  have v151 : I36 151 s = fv + 2 * py := by rw [← ey, eI36]; exact up2_eq
  have i150 : I0 150 t.toInt.toNat = w := by rw [← hkp 150 _ rfl]; exact ew
  have i152 : I0 152 s = cv := by rw [← hkp 152 _ rfl, ← ey]; exact ecv
  have i151 : I0 151 s = fv := by rw [← hkp 151 _ rfl, ← ey]; exact efv
  obtain ⟨gx, gd⟩ := dyM_go (I2 := I36) (done' := (done + 1)) (home' := (home + gb)) (t := t.toInt.toNat) (go := gb.toInt) hS hD hs (by omega) egy (by rw [i150]; omega) (by rw [v152, f6, i152]) (fun k hk => kI 152 k (by decide) (fun e => by cases e.1) (fun e => hk e.2) (fun e => by cases e.1) rfl) (by rw [v151, f7, i151, hpy2]) (fun k hk => kI 151 k (by decide) (fun e => by cases e.1) (fun e => by cases e.1) (fun e => hk e.2) rfl) (by rw [v150, f5, i150]) (fun k hk => kI 150 k (by decide) (fun e => hk e.2) (fun e => by cases e.1) (fun e => by cases e.1) rfl) (fun k => kI 153 k (by decide) (fun e => by cases e.1) (fun e => by cases e.1) (fun e => by cases e.1) rfl) f1 f2
  have gn := yyNu_go (x := (vxM I0 ma.toInt.toNat)) (p := t.toInt.toNat) (y := gb.toInt) q3 q1
  refine XW.call (d' := d + 2 + zz) (mc' := 0) (ms' := 0) (av := [.ref 94, .int dv, .int (done + 1), .int (home + gb)]) (rest := []) (M := mr_335) (Ma := mr_335) rfl (show mcode 335 208 = some (208, .invokevirtual 566, 3, 335, 0, 0, _) from rfl) rfl (by decide) (by decide) ⟨rfl, 94, _, rfl, c94⟩ rfl rfl (show 0 ≤ 8 by decide) (IH (I := I36) (L := L) (done + 1) (home + gb) hwI36 hfI36 (fun q k hq => (kI q k (fun e => by rw [e] at hq; cases hq) (fun e => by rw [e.1] at hq; cases hq) (fun e => by rw [e.1] at hq; cases hq) (fun e => by rw [e.1] at hq; cases hq) (inm_mx hq)).trans (hkp0 q k hq)) gd (by rw [gx]; omega)) (by omega) (Nat.zero_le _) (Nat.zero_le _) (fun rQ45 wQ45 Q45 => ?_)
  obtain ⟨hrQ45, hfQ45, hwQ45, hIQ45, hPQ45, hZQ45⟩ := Q45
  subst hrQ45
  obtain ⟨shQ45, IQ45, LQ45, RQ45⟩ := wQ45
  obtain rfl : sh = shQ45 := hwQ45.2.2.2.1.symm
  obtain rfl : R = RQ45 := hwQ45.2.2.2.2.1.symm
  have u150 : IQ45 150 (t).toNatClampNeg = w - gb := (hIQ45 150 _ rfl).trans v150
  have u152 : IQ45 152 (y).toNatClampNeg = cv + 1 := by rw [ey]; exact (hIQ45 152 _ rfl).trans v152
  have u151 : IQ45 151 (y).toNatClampNeg = fv + 2 * py := by rw [ey]; exact (hIQ45 151 _ rfl).trans v151
  have u148 : IQ45 148 (y).toNatClampNeg = sv := by rw [ey, (show IQ45 148 s = I36 148 s from hIQ45 148 s rfl), kI 148 s (by decide) (fun e => by cases e.1) (fun e => by cases e.1) (fun e => by cases e.1) rfl, ← hkp 148 s rfl, ← ey]; exact esv
  have u136 : IQ45 136 (sv).toNatClampNeg = py := by rw [(show IQ45 136 (sv).toNatClampNeg = I36 136 (sv).toNatClampNeg from hIQ45 136 _ rfl), kI 136 _ (by decide) (fun e => by cases e.1) (fun e => by cases e.1) (fun e => by cases e.1) rfl, ← hkp 136 _ rfl]; exact epy
  refine XW.fam (S' := (212, [(6, .int gb), (5, .int t), (4, .int y), (3, .int home), (2, .int done), (1, .int dv), (0, .ref 94)], [.ref 94], (sh, IQ45, LQ45, R))) (M := mr_335) rfl (show mcode 335 211 = some (211, .aload_n 0, 1, 0, 0, 0, _) from rfl) (Or.inl ⟨.ref 94, rfl, rfl⟩) ?_
  refine XW.fam (S' := (215, [(6, .int gb), (5, .int t), (4, .int y), (3, .int home), (2, .int done), (1, .int dv), (0, .ref 94)], [.ref 151], (sh, IQ45, LQ45, R))) (M := mr_335) rfl (show mcode 335 212 = some (212, .getfield 187, 3, 12, 84, 0, _) from rfl) (Or.inr (Or.inr (Or.inr (Or.inr (Or.inr (Or.inr (Or.inr (Or.inl ⟨_, _, rfl, fl_ld c94 r94_84 (by decide) (by decide), rfl⟩)))))))) ?_
  refine XW.fam (S' := (217, [(6, .int gb), (5, .int t), (4, .int y), (3, .int home), (2, .int done), (1, .int dv), (0, .ref 94)], [.int y, .ref 151], (sh, IQ45, LQ45, R))) (M := mr_335) rfl (show mcode 335 215 = some (215, .iload 4, 2, 0, 0, 0, _) from rfl) (Or.inl ⟨.int y, rfl, rfl⟩) ?_
  refine XW.fam (S' := (218, [(6, .int gb), (5, .int t), (4, .int y), (3, .int home), (2, .int done), (1, .int dv), (0, .ref 94)], [.int y, .ref 151, .int y, .ref 151], (sh, IQ45, LQ45, R))) (M := mr_335) rfl (show mcode 335 217 = some (217, .dup2, 1, 0, 0, 0, _) from rfl) (Or.inr (Or.inr (Or.inr (Or.inr (Or.inr (Or.inl ⟨_, rfl, rfl⟩)))))) ?_
  have hin46 : inR y 3 = true := inR_of (by omega) (by omega)
  refine XW.fam (S' := (219, [(6, .int gb), (5, .int t), (4, .int y), (3, .int home), (2, .int done), (1, .int dv), (0, .ref 94)], [.int (IQ45 151 (y).toNatClampNeg), .int y, .ref 151], (sh, IQ45, LQ45, R))) (M := mr_335) rfl (show mcode 335 218 = some (218, .iaload, 1, 0, 0, 0, _) from rfl) (Or.inr (Or.inr (Or.inl ⟨_, lda_i c151 hin46, rfl⟩))) ?_
  rw [u151]
  refine XW.fam (S' := (220, [(6, .int gb), (5, .int t), (4, .int y), (3, .int home), (2, .int done), (1, .int dv), (0, .ref 94)], [.int 2, .int (fv + 2 * py), .int y, .ref 151], (sh, IQ45, LQ45, R))) (M := mr_335) rfl (show mcode 335 219 = some (219, .iconst 2, 1, 0, 0, 0, _) from rfl) (Or.inl ⟨.int 2, rfl, rfl⟩) ?_
  refine XW.fam (S' := (221, [(6, .int gb), (5, .int t), (4, .int y), (3, .int home), (2, .int done), (1, .int dv), (0, .ref 94)], [.ref 94, .int 2, .int (fv + 2 * py), .int y, .ref 151], (sh, IQ45, LQ45, R))) (M := mr_335) rfl (show mcode 335 220 = some (220, .aload_n 0, 1, 0, 0, 0, _) from rfl) (Or.inl ⟨.ref 94, rfl, rfl⟩) ?_
  refine XW.fam (S' := (224, [(6, .int gb), (5, .int t), (4, .int y), (3, .int home), (2, .int done), (1, .int dv), (0, .ref 94)], [.ref 136, .int 2, .int (fv + 2 * py), .int y, .ref 151], (sh, IQ45, LQ45, R))) (M := mr_335) rfl (show mcode 335 221 = some (221, .getfield 139, 3, 12, 62, 0, _) from rfl) (Or.inr (Or.inr (Or.inr (Or.inr (Or.inr (Or.inr (Or.inr (Or.inl ⟨_, _, rfl, fl_ld c94 r94_62 (by decide) (by decide), rfl⟩)))))))) ?_
  refine XW.fam (S' := (225, [(6, .int gb), (5, .int t), (4, .int y), (3, .int home), (2, .int done), (1, .int dv), (0, .ref 94)], [.ref 94, .ref 136, .int 2, .int (fv + 2 * py), .int y, .ref 151], (sh, IQ45, LQ45, R))) (M := mr_335) rfl (show mcode 335 224 = some (224, .aload_n 0, 1, 0, 0, 0, _) from rfl) (Or.inl ⟨.ref 94, rfl, rfl⟩) ?_
  refine XW.fam (S' := (228, [(6, .int gb), (5, .int t), (4, .int y), (3, .int home), (2, .int done), (1, .int dv), (0, .ref 94)], [.ref 148, .ref 136, .int 2, .int (fv + 2 * py), .int y, .ref 151], (sh, IQ45, LQ45, R))) (M := mr_335) rfl (show mcode 335 225 = some (225, .getfield 178, 3, 12, 80, 0, _) from rfl) (Or.inr (Or.inr (Or.inr (Or.inr (Or.inr (Or.inr (Or.inr (Or.inl ⟨_, _, rfl, fl_ld c94 r94_80 (by decide) (by decide), rfl⟩)))))))) ?_
  refine XW.fam (S' := (230, [(6, .int gb), (5, .int t), (4, .int y), (3, .int home), (2, .int done), (1, .int dv), (0, .ref 94)], [.int y, .ref 148, .ref 136, .int 2, .int (fv + 2 * py), .int y, .ref 151], (sh, IQ45, LQ45, R))) (M := mr_335) rfl (show mcode 335 228 = some (228, .iload 4, 2, 0, 0, 0, _) from rfl) (Or.inl ⟨.int y, rfl, rfl⟩) ?_
  have hin47 : inR y 3 = true := inR_of (by omega) (by omega)
  refine XW.fam (S' := (231, [(6, .int gb), (5, .int t), (4, .int y), (3, .int home), (2, .int done), (1, .int dv), (0, .ref 94)], [.int (IQ45 148 (y).toNatClampNeg), .ref 136, .int 2, .int (fv + 2 * py), .int y, .ref 151], (sh, IQ45, LQ45, R))) (M := mr_335) rfl (show mcode 335 230 = some (230, .iaload, 1, 0, 0, 0, _) from rfl) (Or.inr (Or.inr (Or.inl ⟨_, lda_i c148 hin47, rfl⟩))) ?_
  rw [u148]
  have h148hin48 : 0 ≤ (sv).toInt ∧ (sv).toInt ≤ 15 := by rw [← esv]; exact hw.2.2.1 148 _
  have hin48 : inR sv 16 = true := inR_of (by omega) (by omega)
  refine XW.fam (S' := (232, [(6, .int gb), (5, .int t), (4, .int y), (3, .int home), (2, .int done), (1, .int dv), (0, .ref 94)], [.int (IQ45 136 (sv).toNatClampNeg), .int 2, .int (fv + 2 * py), .int y, .ref 151], (sh, IQ45, LQ45, R))) (M := mr_335) rfl (show mcode 335 231 = some (231, .iaload, 1, 0, 0, 0, _) from rfl) (Or.inr (Or.inr (Or.inl ⟨_, lda_i c136 hin48, rfl⟩))) ?_
  rw [u136]
  refine XW.fam (S' := (233, [(6, .int gb), (5, .int t), (4, .int y), (3, .int home), (2, .int done), (1, .int dv), (0, .ref 94)], [.int (2 * py), .int (fv + 2 * py), .int y, .ref 151], (sh, IQ45, LQ45, R))) (M := mr_335) rfl (show mcode 335 232 = some (232, .imul, 1, 0, 0, 0, _) from rfl) (Or.inr (Or.inr (Or.inr (Or.inr (Or.inr (Or.inl ⟨_, rfl, rfl⟩)))))) ?_
  refine XW.fam (S' := (234, [(6, .int gb), (5, .int t), (4, .int y), (3, .int home), (2, .int done), (1, .int dv), (0, .ref 94)], [.int ((fv + 2 * py) - (2 * py)), .int y, .ref 151], (sh, IQ45, LQ45, R))) (M := mr_335) rfl (show mcode 335 233 = some (233, .isub, 1, 0, 0, 0, _) from rfl) (Or.inr (Or.inr (Or.inr (Or.inr (Or.inr (Or.inl ⟨_, rfl, rfl⟩)))))) ?_
  have hin49 : inR y 3 = true := inR_of (by omega) (by omega)
  obtain ⟨I50, eI50⟩ : ∃ X, X = up2 IQ45 151 (y).toNatClampNeg ((fv + 2 * py) - (2 * py)) := ⟨_, rfl⟩
  refine XW.fam (S' := (235, [(6, .int gb), (5, .int t), (4, .int y), (3, .int home), (2, .int done), (1, .int dv), (0, .ref 94)], [], (sh, I50, LQ45, R))) (M := mr_335) rfl (show mcode 335 234 = some (234, .iastore, 1, 0, 0, 0, _) from rfl) (Or.inr (Or.inr (Or.inr (Or.inl ⟨_, _, by rw [eI50]; exact sta_i c151 hin49, rfl⟩)))) ?_
  have xb := i32b (((fv + 2 * py) - (2 * py)))
  unfold lo32 hi32 at xb
  have hwI50 : wOK (mkT vV []) (wE sh R) (sh, I50, LQ45, R) := by rw [eI50]; exact wOK_u2 (q := 151) (k := (y).toNatClampNeg) (x := ((fv + 2 * py) - (2 * py))) wE_put hwQ45 rfl (by show ((-2147483648) : Int) ≤ _; omega) (by show _ ≤ (2147483647 : Int); omega)
  have hfI50 : fresh (sh, I50, LQ45, R) := by rw [eI50]; exact fresh_I hfQ45 c151
  have v51 : I50 150 (t).toNatClampNeg = (w - gb) := by rw [eI50, up2_ne (fun e => by cases e.1)]; exact u150
  have v52 : I50 152 (y).toNatClampNeg = (cv + 1) := by rw [eI50, up2_ne (fun e => by cases e.1)]; exact u152
  have v54 : I50 148 (y).toNatClampNeg = sv := by rw [eI50, up2_ne (fun e => by cases e.1)]; exact u148
  have v55 : I50 136 (sv).toNatClampNeg = py := by rw [eI50, up2_ne (fun e => by cases e.1)]; exact u136
  have v56 : I50 151 (y).toNatClampNeg = ((fv + 2 * py) - (2 * py)) := by rw [eI50]; exact up2_eq
  refine XW.fam (S' := (236, [(6, .int gb), (5, .int t), (4, .int y), (3, .int home), (2, .int done), (1, .int dv), (0, .ref 94)], [.ref 94], (sh, I50, LQ45, R))) (M := mr_335) rfl (show mcode 335 235 = some (235, .aload_n 0, 1, 0, 0, 0, _) from rfl) (Or.inl ⟨.ref 94, rfl, rfl⟩) ?_
  refine XW.fam (S' := (239, [(6, .int gb), (5, .int t), (4, .int y), (3, .int home), (2, .int done), (1, .int dv), (0, .ref 94)], [.ref 152], (sh, I50, LQ45, R))) (M := mr_335) rfl (show mcode 335 236 = some (236, .getfield 190, 3, 12, 85, 0, _) from rfl) (Or.inr (Or.inr (Or.inr (Or.inr (Or.inr (Or.inr (Or.inr (Or.inl ⟨_, _, rfl, fl_ld c94 r94_85 (by decide) (by decide), rfl⟩)))))))) ?_
  refine XW.fam (S' := (241, [(6, .int gb), (5, .int t), (4, .int y), (3, .int home), (2, .int done), (1, .int dv), (0, .ref 94)], [.int y, .ref 152], (sh, I50, LQ45, R))) (M := mr_335) rfl (show mcode 335 239 = some (239, .iload 4, 2, 0, 0, 0, _) from rfl) (Or.inl ⟨.int y, rfl, rfl⟩) ?_
  refine XW.fam (S' := (242, [(6, .int gb), (5, .int t), (4, .int y), (3, .int home), (2, .int done), (1, .int dv), (0, .ref 94)], [.int y, .ref 152, .int y, .ref 152], (sh, I50, LQ45, R))) (M := mr_335) rfl (show mcode 335 241 = some (241, .dup2, 1, 0, 0, 0, _) from rfl) (Or.inr (Or.inr (Or.inr (Or.inr (Or.inr (Or.inl ⟨_, rfl, rfl⟩)))))) ?_
  have hin57 : inR y 3 = true := inR_of (by omega) (by omega)
  refine XW.fam (S' := (243, [(6, .int gb), (5, .int t), (4, .int y), (3, .int home), (2, .int done), (1, .int dv), (0, .ref 94)], [.int (I50 152 (y).toNatClampNeg), .int y, .ref 152], (sh, I50, LQ45, R))) (M := mr_335) rfl (show mcode 335 242 = some (242, .iaload, 1, 0, 0, 0, _) from rfl) (Or.inr (Or.inr (Or.inl ⟨_, lda_i c152 hin57, rfl⟩))) ?_
  rw [v52]
  refine XW.fam (S' := (244, [(6, .int gb), (5, .int t), (4, .int y), (3, .int home), (2, .int done), (1, .int dv), (0, .ref 94)], [.int 1, .int (cv + 1), .int y, .ref 152], (sh, I50, LQ45, R))) (M := mr_335) rfl (show mcode 335 243 = some (243, .iconst 1, 1, 0, 0, 0, _) from rfl) (Or.inl ⟨.int 1, rfl, rfl⟩) ?_
  refine XW.fam (S' := (245, [(6, .int gb), (5, .int t), (4, .int y), (3, .int home), (2, .int done), (1, .int dv), (0, .ref 94)], [.int ((cv + 1) - 1), .int y, .ref 152], (sh, I50, LQ45, R))) (M := mr_335) rfl (show mcode 335 244 = some (244, .isub, 1, 0, 0, 0, _) from rfl) (Or.inr (Or.inr (Or.inr (Or.inr (Or.inr (Or.inl ⟨_, rfl, rfl⟩)))))) ?_
  have hin58 : inR y 3 = true := inR_of (by omega) (by omega)
  obtain ⟨I59, eI59⟩ : ∃ X, X = up2 I50 152 (y).toNatClampNeg ((cv + 1) - 1) := ⟨_, rfl⟩
  refine XW.fam (S' := (246, [(6, .int gb), (5, .int t), (4, .int y), (3, .int home), (2, .int done), (1, .int dv), (0, .ref 94)], [], (sh, I59, LQ45, R))) (M := mr_335) rfl (show mcode 335 245 = some (245, .iastore, 1, 0, 0, 0, _) from rfl) (Or.inr (Or.inr (Or.inr (Or.inl ⟨_, _, by rw [eI59]; exact sta_i c152 hin58, rfl⟩)))) ?_
  have xc := inc32 (m := cv) (by omega) (by omega)
  have xd : (cv + 1 - 1).toInt = cv.toInt := by rw [Int32.add_sub_cancel]
  have hwI59 : wOK (mkT vV []) (wE sh R) (sh, I59, LQ45, R) := by rw [eI59]; exact wOK_u2 (q := 152) (k := (y).toNatClampNeg) (x := ((cv + 1) - 1)) wE_put hwI50 rfl (by show (0 : Int) ≤ _; omega) (by show _ ≤ (3 : Int); omega)
  have hfI59 : fresh (sh, I59, LQ45, R) := by rw [eI59]; exact fresh_I hfI50 c152
  have v60 : I59 150 (t).toNatClampNeg = (w - gb) := by rw [eI59, up2_ne (fun e => by cases e.1)]; exact v51
  have v62 : I59 148 (y).toNatClampNeg = sv := by rw [eI59, up2_ne (fun e => by cases e.1)]; exact v54
  have v63 : I59 136 (sv).toNatClampNeg = py := by rw [eI59, up2_ne (fun e => by cases e.1)]; exact v55
  have v64 : I59 151 (y).toNatClampNeg = ((fv + 2 * py) - (2 * py)) := by rw [eI59, up2_ne (fun e => by cases e.1)]; exact v56
  have v65 : I59 152 (y).toNatClampNeg = ((cv + 1) - 1) := by rw [eI59]; exact up2_eq
  refine XW.fam (S' := (247, [(6, .int gb), (5, .int t), (4, .int y), (3, .int home), (2, .int done), (1, .int dv), (0, .ref 94)], [.ref 94], (sh, I59, LQ45, R))) (M := mr_335) rfl (show mcode 335 246 = some (246, .aload_n 0, 1, 0, 0, 0, _) from rfl) (Or.inl ⟨.ref 94, rfl, rfl⟩) ?_
  refine XW.fam (S' := (250, [(6, .int gb), (5, .int t), (4, .int y), (3, .int home), (2, .int done), (1, .int dv), (0, .ref 94)], [.ref 150], (sh, I59, LQ45, R))) (M := mr_335) rfl (show mcode 335 247 = some (247, .getfield 184, 3, 12, 83, 0, _) from rfl) (Or.inr (Or.inr (Or.inr (Or.inr (Or.inr (Or.inr (Or.inr (Or.inl ⟨_, _, rfl, fl_ld c94 r94_83 (by decide) (by decide), rfl⟩)))))))) ?_
  refine XW.fam (S' := (252, [(6, .int gb), (5, .int t), (4, .int y), (3, .int home), (2, .int done), (1, .int dv), (0, .ref 94)], [.int t, .ref 150], (sh, I59, LQ45, R))) (M := mr_335) rfl (show mcode 335 250 = some (250, .iload 5, 2, 0, 0, 0, _) from rfl) (Or.inl ⟨.int t, rfl, rfl⟩) ?_
  refine XW.fam (S' := (253, [(6, .int gb), (5, .int t), (4, .int y), (3, .int home), (2, .int done), (1, .int dv), (0, .ref 94)], [.int t, .ref 150, .int t, .ref 150], (sh, I59, LQ45, R))) (M := mr_335) rfl (show mcode 335 252 = some (252, .dup2, 1, 0, 0, 0, _) from rfl) (Or.inr (Or.inr (Or.inr (Or.inr (Or.inr (Or.inl ⟨_, rfl, rfl⟩)))))) ?_
  have hin66 : inR t 3 = true := inR_of (by omega) (by omega)
  refine XW.fam (S' := (254, [(6, .int gb), (5, .int t), (4, .int y), (3, .int home), (2, .int done), (1, .int dv), (0, .ref 94)], [.int (I59 150 (t).toNatClampNeg), .int t, .ref 150], (sh, I59, LQ45, R))) (M := mr_335) rfl (show mcode 335 253 = some (253, .iaload, 1, 0, 0, 0, _) from rfl) (Or.inr (Or.inr (Or.inl ⟨_, lda_i c150 hin66, rfl⟩))) ?_
  rw [v60]
  refine XW.fam (S' := (256, [(6, .int gb), (5, .int t), (4, .int y), (3, .int home), (2, .int done), (1, .int dv), (0, .ref 94)], [.int gb, .int (w - gb), .int t, .ref 150], (sh, I59, LQ45, R))) (M := mr_335) rfl (show mcode 335 254 = some (254, .iload 6, 2, 0, 0, 0, _) from rfl) (Or.inl ⟨.int gb, rfl, rfl⟩) ?_
  refine XW.fam (S' := (257, [(6, .int gb), (5, .int t), (4, .int y), (3, .int home), (2, .int done), (1, .int dv), (0, .ref 94)], [.int ((w - gb) + gb), .int t, .ref 150], (sh, I59, LQ45, R))) (M := mr_335) rfl (show mcode 335 256 = some (256, .iadd, 1, 0, 0, 0, _) from rfl) (Or.inr (Or.inr (Or.inr (Or.inr (Or.inr (Or.inl ⟨_, rfl, rfl⟩)))))) ?_
  have hin67 : inR t 3 = true := inR_of (by omega) (by omega)
  obtain ⟨I68, eI68⟩ : ∃ X, X = up2 I59 150 (t).toNatClampNeg ((w - gb) + gb) := ⟨_, rfl⟩
  refine XW.fam (S' := (258, [(6, .int gb), (5, .int t), (4, .int y), (3, .int home), (2, .int done), (1, .int dv), (0, .ref 94)], [], (sh, I68, LQ45, R))) (M := mr_335) rfl (show mcode 335 257 = some (257, .iastore, 1, 0, 0, 0, _) from rfl) (Or.inr (Or.inr (Or.inr (Or.inl ⟨_, _, by rw [eI68]; exact sta_i c150 hin67, rfl⟩)))) ?_
  have xb := i32b (((w - gb) + gb))
  unfold lo32 hi32 at xb
  have hwI68 : wOK (mkT vV []) (wE sh R) (sh, I68, LQ45, R) := by rw [eI68]; exact wOK_u2 (q := 150) (k := (t).toNatClampNeg) (x := ((w - gb) + gb)) wE_put hwI59 rfl (by show ((-2147483648) : Int) ≤ _; omega) (by show _ ≤ (2147483647 : Int); omega)
  have hfI68 : fresh (sh, I68, LQ45, R) := by rw [eI68]; exact fresh_I hfI59 c150
  have v70 : I68 148 (y).toNatClampNeg = sv := by rw [eI68, up2_ne (fun e => by cases e.1)]; exact v62
  have v71 : I68 136 (sv).toNatClampNeg = py := by rw [eI68, up2_ne (fun e => by cases e.1)]; exact v63
  have v72 : I68 151 (y).toNatClampNeg = ((fv + 2 * py) - (2 * py)) := by rw [eI68, up2_ne (fun e => by cases e.1)]; exact v64
  have v73 : I68 152 (y).toNatClampNeg = ((cv + 1) - 1) := by rw [eI68, up2_ne (fun e => by cases e.1)]; exact v65
  have v74 : I68 150 (t).toNatClampNeg = ((w - gb) + gb) := by rw [eI68]; exact up2_eq
  refine XW.sub (ls' := [(6, .int gb), (5, .int t), (4, .int y), (3, .int home), (2, .int done), (1, .int dv), (0, .ref 94)]) (List.forall_mem_cons.mpr ⟨List.mem_of_getElem? (i := 0) rfl, (List.forall_mem_cons.mpr ⟨List.mem_of_getElem? (i := 1) rfl, (List.forall_mem_cons.mpr ⟨List.mem_of_getElem? (i := 2) rfl, (List.forall_mem_cons.mpr ⟨List.mem_of_getElem? (i := 3) rfl, (List.forall_mem_cons.mpr ⟨List.mem_of_getElem? (i := 4) rfl, (List.forall_mem_cons.mpr ⟨List.mem_of_getElem? (i := 5) rfl, (List.forall_mem_cons.mpr ⟨List.mem_of_getElem? (i := 6) rfl, (fun _ h => absurd h List.not_mem_nil)⟩)⟩)⟩)⟩)⟩)⟩)⟩) ?_
  have kF : ∀ q k, inm mdMh q k = false → I68 q k = I0 q k := by
    intro q k hq
    by_cases a2 : q = 150 ∧ k = t.toInt.toNat
    · rw [a2.1, a2.2, ← tn, eI68, up2_eq, Int32.sub_add_cancel]
      exact ew.symm.trans (hkp 150 _ rfl)
    by_cases a3 : q = 152 ∧ k = s
    · rw [a3.1, a3.2, ← ey, eI68, up2_ne (fun e => by cases e.1), eI59, up2_eq, Int32.add_sub_cancel]
      exact ecv.symm.trans (hkp 152 _ rfl)
    by_cases a4 : q = 151 ∧ k = s
    · rw [a4.1, a4.2, ← ey, eI68, up2_ne (fun e => by cases e.1), eI59, up2_ne (fun e => by cases e.1), eI50, up2_eq, Int32.add_sub_cancel]
      exact efv.symm.trans (hkp 151 _ rfl)
    rw [eI68, up2_ne (fun e => a2 ⟨e.1, by exact e.2⟩), eI59, up2_ne (fun e => a3 ⟨e.1, by rw [e.2, ey]⟩), eI50, up2_ne (fun e => a4 ⟨e.1, by rw [e.2, ey]⟩), (show IQ45 q k = I36 q k from hIQ45 q k hq)]
    exact kI q k (fun z => by rw [z] at hq; cases hq) a2 a3 a4 hq
  have n3 : ∀ q k, ¬ q = 150 → ¬ q = 151 → ¬ q = 152 → I68 q k = IQ45 q k := by
    intro q k a1 a2 a3
    rw [eI68, up2_ne (fun e => a1 e.1), eI59, up2_ne (fun e => a3 e.1), eI50, up2_ne (fun e => a2 e.1)]
  have n4 : ∀ q k, ¬ q = 150 → ¬ q = 151 → ¬ q = 152 → I36 q k = I2 q k := by
    intro q k a1 a2 a3
    rw [eI36, up2_ne (fun e => a2 e.1), eI23, up2_ne (fun e => a3 e.1), eI12, up2_ne (fun e => a1 e.1)]
  have k8 : ∀ k, k < done.toInt.toNat → I68 154 k = I0 154 k := by
    intro k hk
    rw [n3 154 k (by decide) (by decide) (by decide), (show IQ45 154 k = I36 154 k from hPQ45 k (by rw [f1]; omega)), n4 154 k (by decide) (by decide) (by decide), eI2, up2_ne (fun z => by have := z.2; omega)]
    exact hk154 k hk
  have hw0 : 0 < (vxM I0 ma.toInt.toNat).1 t.toInt.toNat := by show 0 < (I0 150 _).toInt; rw [i150]; omega
  have eg : (yyG ma.toInt.toNat mc.toInt.toNat (vRow J 135 148) (vRow J 136 148) dv.toInt (vxM I0 ma.toInt.toNat) s) t.toInt.toNat = gb.toInt + yyW ma.toInt.toNat mc.toInt.toNat (vRow J 135 148) (vRow J 136 148) dv.toInt (vxM I36 ma.toInt.toNat) := by rw [gx, egy]; exact if_pos hw0
  have ehh : (yyH ma.toInt.toNat mc.toInt.toNat (vRow J 135 148) (vRow J 136 148) dv.toInt (vxM I0 ma.toInt.toNat) s) t.toInt.toNat = (t.toInt.toNat : Int) :: yyL ma.toInt.toNat mc.toInt.toNat (vRow J 135 148) (vRow J 136 148) dv.toInt (vxM I36 ma.toInt.toNat) := by rw [gx, egy]; rfl
  have hWn := (yyW_rng (a := ma.toInt.toNat) (c := mc.toInt.toNat) (B := (vRow J 135 148)) (P := (vRow J 136 148)) (d := dv.toInt) (by omega) (fun _ => vRow_ge) _ (vxM I36 ma.toInt.toNat) (Nat.le_refl _) (fun k _ => (dyM_c gd k).1) (dyM_w gd)).1
  have bI : bsM I68 = bsM IQ45 := bsM_congr (n3 94 91 (by decide) (by decide) (by decide)) (n3 94 90 (by decide) (by decide) (by decide)) (n3 94 89 (by decide) (by decide) (by decide)) (fun k => n3 155 k (by decide) (by decide) (by decide))
  have n5 : ∀ q k, ¬ q = 150 → ¬ q = 151 → ¬ q = 152 → ¬ q = 154 → I36 q k = I q k := by
    intro q k a1 a2 a3 a4
    rw [n4 q k a1 a2 a3, eI2, up2_ne (fun e => a4 e.1)]
  have bJ : bsM I36 = bsM I := bsM_congr (n5 94 91 (by decide) (by decide) (by decide) (by decide)) (n5 94 90 (by decide) (by decide) (by decide) (by decide)) (n5 94 89 (by decide) (by decide) (by decide) (by decide)) (fun k => n5 155 k (by decide) (by decide) (by decide) (by decide))
  have m1n : (done + 1).toInt.toNat = done.toInt.toNat + 1 := by omega
  have v154 : I36 154 done.toInt.toNat = t := by rw [n4 154 _ (by decide) (by decide) (by decide), ← mdn, eI2]; exact up2_eq
  have er : rwL I36 154 (done + 1).toInt.toNat = rwL I0 154 done.toInt.toNat ++ [(t.toInt.toNat : Int)] := by
    rw [m1n, rwL_succ, v154, rwL_congr (I := I36) (J := I0) (q := 154) (q' := 154) (fun k hk => by rw [n4 154 k (by decide) (by decide) (by decide), eI2, up2_ne (fun z => by have := z.2; omega)]; exact hk154 k hk)]
    have : t.toInt = (t.toInt.toNat : Int) := by omega
    rw [← this]
  refine K hwI68 hfI68 kF k8 ?_ gb
  have hZ : bsM IQ45 = upY (yyW ma.toInt.toNat mc.toInt.toNat (vRow J 135 148) (vRow J 136 148) dv.toInt (vxM I36 ma.toInt.toNat)) (yyL ma.toInt.toNat mc.toInt.toNat (vRow J 135 148) (vRow J 136 148) dv.toInt (vxM I36 ma.toInt.toNat)) (home + gb).toInt (rwL I36 154 (done + 1).toInt.toNat) (bsM I36) := hZQ45
  rw [bI, hZ, bJ, er, f2, upY_shift hWn (by omega), ← eg, ← ehh, hz2]
  exact upY_mp
theorem mch_lp {d zz : Nat} {sh : List mE} {J I0 : Nat → Nat → Int32} {R : Nat → Nat → Option Nat} {ma mc dv done home y : Int32} {s : Nat} {p0 : Option (Int × List Int)} {Q : Option Value → mW → Prop} (hS : stM J ma mc) (hD : dyM J I0 ma mc done home) (hs : yyChs ma.toInt.toNat mc.toInt.toNat (vRow J 136 148) dv.toInt (vxM I0 ma.toInt.toNat) = some s) (hy : y.toInt = (s : Int)) (hzz : yyNu (vxM I0 ma.toInt.toNat) ma.toInt.toNat < (zz : Int) + 1) (hkp0 : ∀ q k, inm mdMx q k = false → I0 q k = J q k) (IH : ∀ {I : Nat → Nat → Int32} {L : Nat → Nat → Int64} (done home : Int32), wOK (mkT vV []) (wE sh R) (sh, I, L, R) → fresh (sh, I, L, R) → (∀ q k, inm mdMx q k = false → I q k = J q k) → dyM J I ma mc done home → yyNu (vxM I ma.toInt.toNat) ma.toInt.toNat < (zz : Int) → Tc 335 (d + 2 + zz) 0 0 [.ref 94, .int dv, .int done, .int home] (sh, I, L, R) (QMh sh R J dv.toInt ma.toInt.toNat mc.toInt.toNat I done home)) : ∀ (z : Nat) {I : Nat → Nat → Int32} {L : Nat → Nat → Int64} (t : Int32), 0 ≤ t.toInt → t.toInt ≤ mc.toInt → mc.toInt - t.toInt < z → wOK (mkT vV []) (wE sh R) (sh, I, L, R) → fresh (sh, I, L, R) → (∀ q k, inm mdMh q k = false → I q k = I0 q k) → (∀ k, k < done.toInt.toNat → I 154 k = I0 154 k) → bsM I = upY (yyMP (yyG ma.toInt.toNat mc.toInt.toNat (vRow J 135 148) (vRow J 136 148) dv.toInt (vxM I0 ma.toInt.toNat) s) (yyH ma.toInt.toNat mc.toInt.toNat (vRow J 135 148) (vRow J 136 148) dv.toInt (vxM I0 ma.toInt.toNat) s) t.toInt.toNat).1 (yyMP (yyG ma.toInt.toNat mc.toInt.toNat (vRow J 135 148) (vRow J 136 148) dv.toInt (vxM I0 ma.toInt.toNat) s) (yyH ma.toInt.toNat mc.toInt.toNat (vRow J 135 148) (vRow J 136 148) dv.toInt (vxM I0 ma.toInt.toNat) s) t.toInt.toNat).2 home.toInt (rwL I0 154 done.toInt.toNat) p0 → (∀ {I : Nat → Nat → Int32} {L : Nat → Nat → Int64}, wOK (mkT vV []) (wE sh R) (sh, I, L, R) → fresh (sh, I, L, R) → (∀ q k, inm mdMh q k = false → I q k = I0 q k) → (∀ k, k < done.toInt.toNat → I 154 k = I0 154 k) → bsM I = upY (yyMP (yyG ma.toInt.toNat mc.toInt.toNat (vRow J 135 148) (vRow J 136 148) dv.toInt (vxM I0 ma.toInt.toNat) s) (yyH ma.toInt.toNat mc.toInt.toNat (vRow J 135 148) (vRow J 136 148) dv.toInt (vxM I0 ma.toInt.toNat) s) mc.toInt.toNat).1 (yyMP (yyG ma.toInt.toNat mc.toInt.toNat (vRow J 135 148) (vRow J 136 148) dv.toInt (vxM I0 ma.toInt.toNat) s) (yyH ma.toInt.toNat mc.toInt.toNat (vRow J 135 148) (vRow J 136 148) dv.toInt (vxM I0 ma.toInt.toNat) s) mc.toInt.toNat).2 home.toInt (rwL I0 154 done.toInt.toNat) p0 → ∀ t : Int32, XW 335 mr_335 none (d + 2 + zz + 1) 0 0 Q (264, [(5, .int t), (4, .int y), (3, .int home), (2, .int done), (1, .int dv), (0, .ref 94)], [], (sh, I, L, R))) → XW 335 mr_335 none (d + 2 + zz + 1) 0 0 Q (76, [(5, .int t), (4, .int y), (3, .int home), (2, .int done), (1, .int dv), (0, .ref 94)], [], (sh, I, L, R)) := by
  have z0 : (0 : Int32).toInt = 0 := rfl
  obtain ⟨⟨hc2, hc3J⟩, ha, hc', hS4⟩ := id hS
  obtain ⟨d1, d2, d3, d4, d5⟩ := id hD
  obtain ⟨q1, q2, -⟩ := yyChs_some hs
  obtain ⟨q3, q4, -⟩ := yyEl_of q2
  have hbs := hS4 s (by omega)
  have hPs : vRow J 136 148 s = (J 136 (J 148 s).toNatClampNeg).toInt := vRow_of hbs.2.1
  have hBs : vRow J 135 148 s = (J 135 (J 148 s).toNatClampNeg).toInt := vRow_of hbs.1.1
  have hfr0 := frM_rng hS hD (k := s) (by omega)
  have dS := d1 s (by omega)
  have ecs : (vxM I0 ma.toInt.toNat).2.1 s = (I0 152 s).toInt := if_pos q1
  have hN1 := yyNu_one (x := (vxM I0 ma.toInt.toNat)) (fun k => (dyM_c hD k).2) q3 q4 q1
  have hTn := yyT_nn (W := (vxM I0 ma.toInt.toNat).1) (n := mc.toInt.toNat) (dyM_w hD)
  have ey : (y).toNatClampNeg = s := by show y.toInt.toNat = s; omega
  intro z
  induction z with
  | zero =>
    intro I L t h1 h2 hz
    exfalso
    omega
  | succ z ih =>
    intro I L t h1 h2 hz hw hf hkp hk154 hz2 K
    have hc3I : I 94 81 = mc := (hkp 94 81 rfl).trans ((hkp0 94 81 rfl).trans hc3J)
    obtain ⟨w, ew⟩ : ∃ z : Int32, I 150 (t).toNatClampNeg = z := ⟨_, rfl⟩
    obtain ⟨sv, esv⟩ : ∃ z : Int32, I 148 (y).toNatClampNeg = z := ⟨_, rfl⟩
    obtain ⟨room, eroom⟩ : ∃ z : Int32, I 135 (sv).toNatClampNeg = z := ⟨_, rfl⟩
    have hxw : (vxM I0 ma.toInt.toNat).1 t.toInt.toNat = w.toInt := by
      show (I0 150 (t).toNatClampNeg).toInt = w.toInt
      rw [← ew, hkp 150 _ rfl]
    have esj : sv = J 148 s := by rw [← esv, ey, hkp 148 _ rfl]; exact hkp0 148 s rfl
    have hroom : room.toInt = vRow J 135 148 s := by
      rw [← eroom, esj, hkp 135 _ rfl, hkp0 135 _ rfl]
      exact (vRow_of hbs.1.1).symm
    have hwt : t.toInt < mc.toInt → 0 ≤ w.toInt := by
      intro q
      have a2 := dyM_w hD t.toInt.toNat (by omega)
      rw [hxw] at a2
      exact a2
    have c94 : sh[94]? = some (.inr 12) := hw.1 94 _ rfl
    have c135 : sh[135]? = some (.inl (.int, 16)) := hw.1 135 _ rfl
    have c148 : sh[148]? = some (.inl (.int, 3)) := hw.1 148 _ rfl
    have c150 : sh[150]? = some (.inl (.int, 3)) := hw.1 150 _ rfl
    have r94_61 : R 94 61 = some 135 := hw.2.1 94 61 _ rfl
    have r94_80 : R 94 80 = some 148 := hw.2.1 94 80 _ rfl
    have r94_83 : R 94 83 = some 150 := hw.2.1 94 83 _ rfl
    refine XW.fam (S' := (78, [(5, .int t), (4, .int y), (3, .int home), (2, .int done), (1, .int dv), (0, .ref 94)], [.int t], (sh, I, L, R))) (M := mr_335) rfl (show mcode 335 76 = some (76, .iload 5, 2, 0, 0, 0, _) from rfl) (Or.inl ⟨.int t, rfl, rfl⟩) ?_
    refine XW.fam (S' := (79, [(5, .int t), (4, .int y), (3, .int home), (2, .int done), (1, .int dv), (0, .ref 94)], [.ref 94, .int t], (sh, I, L, R))) (M := mr_335) rfl (show mcode 335 78 = some (78, .aload_n 0, 1, 0, 0, 0, _) from rfl) (Or.inl ⟨.ref 94, rfl, rfl⟩) ?_
    refine XW.fam (S' := (82, [(5, .int t), (4, .int y), (3, .int home), (2, .int done), (1, .int dv), (0, .ref 94)], [.int (I 94 81), .int t], (sh, I, L, R))) (M := mr_335) rfl (show mcode 335 79 = some (79, .getfield 554, 3, 12, 81, 0, _) from rfl) (Or.inr (Or.inr (Or.inr (Or.inr (Or.inr (Or.inr (Or.inr (Or.inl ⟨_, _, rfl, fl_ldI c94 (by decide) (by decide), rfl⟩)))))))) ?_
    rw [hc3I]
    cases k1 : bcmp .ge t mc with
    | true =>
      have gk1 : (mc).toInt ≤ (t).toInt := icT (c := .ge) (a := (t).toInt) (b := (mc).toInt) rfl rfl k1
      refine XW.fam (S' := (264, [(5, .int t), (4, .int y), (3, .int home), (2, .int done), (1, .int dv), (0, .ref 94)], [], (sh, I, L, R))) (M := mr_335) rfl (show mcode 335 82 = some (82, .if_icmp .ge 182, 3, 264, 0, 0, _) from rfl) (Or.inr (Or.inl ⟨264, [], by simp [brn, k1], rfl⟩)) ?_
      have et : t.toInt.toNat = mc.toInt.toNat := by omega
      rw [et] at hz2
      exact K hw hf hkp hk154 hz2 t
    | false =>
      have gk1 : ¬ ((mc).toInt ≤ (t).toInt) := icF (c := .ge) (a := (t).toInt) (b := (mc).toInt) rfl rfl k1
      refine XW.fam (S' := (85, [(5, .int t), (4, .int y), (3, .int home), (2, .int done), (1, .int dv), (0, .ref 94)], [], (sh, I, L, R))) (M := mr_335) rfl (show mcode 335 82 = some (82, .if_icmp .ge 182, 3, 264, 0, 0, _) from rfl) (Or.inr (Or.inl ⟨85, [], by simp [brn, k1], rfl⟩)) ?_
      refine XW.fam (S' := (86, [(5, .int t), (4, .int y), (3, .int home), (2, .int done), (1, .int dv), (0, .ref 94)], [.ref 94], (sh, I, L, R))) (M := mr_335) rfl (show mcode 335 85 = some (85, .aload_n 0, 1, 0, 0, 0, _) from rfl) (Or.inl ⟨.ref 94, rfl, rfl⟩) ?_
      refine XW.fam (S' := (89, [(5, .int t), (4, .int y), (3, .int home), (2, .int done), (1, .int dv), (0, .ref 94)], [.ref 150], (sh, I, L, R))) (M := mr_335) rfl (show mcode 335 86 = some (86, .getfield 184, 3, 12, 83, 0, _) from rfl) (Or.inr (Or.inr (Or.inr (Or.inr (Or.inr (Or.inr (Or.inr (Or.inl ⟨_, _, rfl, fl_ld c94 r94_83 (by decide) (by decide), rfl⟩)))))))) ?_
      refine XW.fam (S' := (91, [(5, .int t), (4, .int y), (3, .int home), (2, .int done), (1, .int dv), (0, .ref 94)], [.int t, .ref 150], (sh, I, L, R))) (M := mr_335) rfl (show mcode 335 89 = some (89, .iload 5, 2, 0, 0, 0, _) from rfl) (Or.inl ⟨.int t, rfl, rfl⟩) ?_
      have hin2 : inR t 3 = true := inR_of (by omega) (by omega)
      refine XW.fam (S' := (92, [(5, .int t), (4, .int y), (3, .int home), (2, .int done), (1, .int dv), (0, .ref 94)], [.int (I 150 (t).toNatClampNeg)], (sh, I, L, R))) (M := mr_335) rfl (show mcode 335 91 = some (91, .iaload, 1, 0, 0, 0, _) from rfl) (Or.inr (Or.inr (Or.inl ⟨_, lda_i c150 hin2, rfl⟩))) ?_
      rw [ew]
      cases k3 : bcmp .ne w 0 with
      | true =>
        have gk3 : ¬ (w).toInt = 0 := icT (c := .ne) (a := (w).toInt) (b := 0) rfl (by decide) k3
        refine XW.fam (S' := (98, [(5, .int t), (4, .int y), (3, .int home), (2, .int done), (1, .int dv), (0, .ref 94)], [], (sh, I, L, R))) (M := mr_335) rfl (show mcode 335 92 = some (92, .ifCond .ne 6, 3, 98, 0, 0, _) from rfl) (Or.inr (Or.inl ⟨98, [], by simp [brn, k3], rfl⟩)) ?_
        refine XW.fam (S' := (99, [(5, .int t), (4, .int y), (3, .int home), (2, .int done), (1, .int dv), (0, .ref 94)], [.ref 94], (sh, I, L, R))) (M := mr_335) rfl (show mcode 335 98 = some (98, .aload_n 0, 1, 0, 0, 0, _) from rfl) (Or.inl ⟨.ref 94, rfl, rfl⟩) ?_
        refine XW.fam (S' := (102, [(5, .int t), (4, .int y), (3, .int home), (2, .int done), (1, .int dv), (0, .ref 94)], [.ref 150], (sh, I, L, R))) (M := mr_335) rfl (show mcode 335 99 = some (99, .getfield 184, 3, 12, 83, 0, _) from rfl) (Or.inr (Or.inr (Or.inr (Or.inr (Or.inr (Or.inr (Or.inr (Or.inl ⟨_, _, rfl, fl_ld c94 r94_83 (by decide) (by decide), rfl⟩)))))))) ?_
        refine XW.fam (S' := (104, [(5, .int t), (4, .int y), (3, .int home), (2, .int done), (1, .int dv), (0, .ref 94)], [.int t, .ref 150], (sh, I, L, R))) (M := mr_335) rfl (show mcode 335 102 = some (102, .iload 5, 2, 0, 0, 0, _) from rfl) (Or.inl ⟨.int t, rfl, rfl⟩) ?_
        have hin4 : inR t 3 = true := inR_of (by omega) (by omega)
        refine XW.fam (S' := (105, [(5, .int t), (4, .int y), (3, .int home), (2, .int done), (1, .int dv), (0, .ref 94)], [.int (I 150 (t).toNatClampNeg)], (sh, I, L, R))) (M := mr_335) rfl (show mcode 335 104 = some (104, .iaload, 1, 0, 0, 0, _) from rfl) (Or.inr (Or.inr (Or.inl ⟨_, lda_i c150 hin4, rfl⟩))) ?_
        rw [ew]
        refine XW.fam (S' := (106, [(5, .int t), (4, .int y), (3, .int home), (2, .int done), (1, .int dv), (0, .ref 94)], [.ref 94, .int w], (sh, I, L, R))) (M := mr_335) rfl (show mcode 335 105 = some (105, .aload_n 0, 1, 0, 0, 0, _) from rfl) (Or.inl ⟨.ref 94, rfl, rfl⟩) ?_
        refine XW.fam (S' := (109, [(5, .int t), (4, .int y), (3, .int home), (2, .int done), (1, .int dv), (0, .ref 94)], [.ref 135, .int w], (sh, I, L, R))) (M := mr_335) rfl (show mcode 335 106 = some (106, .getfield 136, 3, 12, 61, 0, _) from rfl) (Or.inr (Or.inr (Or.inr (Or.inr (Or.inr (Or.inr (Or.inr (Or.inl ⟨_, _, rfl, fl_ld c94 r94_61 (by decide) (by decide), rfl⟩)))))))) ?_
        refine XW.fam (S' := (110, [(5, .int t), (4, .int y), (3, .int home), (2, .int done), (1, .int dv), (0, .ref 94)], [.ref 94, .ref 135, .int w], (sh, I, L, R))) (M := mr_335) rfl (show mcode 335 109 = some (109, .aload_n 0, 1, 0, 0, 0, _) from rfl) (Or.inl ⟨.ref 94, rfl, rfl⟩) ?_
        refine XW.fam (S' := (113, [(5, .int t), (4, .int y), (3, .int home), (2, .int done), (1, .int dv), (0, .ref 94)], [.ref 148, .ref 135, .int w], (sh, I, L, R))) (M := mr_335) rfl (show mcode 335 110 = some (110, .getfield 178, 3, 12, 80, 0, _) from rfl) (Or.inr (Or.inr (Or.inr (Or.inr (Or.inr (Or.inr (Or.inr (Or.inl ⟨_, _, rfl, fl_ld c94 r94_80 (by decide) (by decide), rfl⟩)))))))) ?_
        refine XW.fam (S' := (115, [(5, .int t), (4, .int y), (3, .int home), (2, .int done), (1, .int dv), (0, .ref 94)], [.int y, .ref 148, .ref 135, .int w], (sh, I, L, R))) (M := mr_335) rfl (show mcode 335 113 = some (113, .iload 4, 2, 0, 0, 0, _) from rfl) (Or.inl ⟨.int y, rfl, rfl⟩) ?_
        have hin5 : inR y 3 = true := inR_of (by omega) (by omega)
        refine XW.fam (S' := (116, [(5, .int t), (4, .int y), (3, .int home), (2, .int done), (1, .int dv), (0, .ref 94)], [.int (I 148 (y).toNatClampNeg), .ref 135, .int w], (sh, I, L, R))) (M := mr_335) rfl (show mcode 335 115 = some (115, .iaload, 1, 0, 0, 0, _) from rfl) (Or.inr (Or.inr (Or.inl ⟨_, lda_i c148 hin5, rfl⟩))) ?_
        rw [esv]
        have h148hin6 : 0 ≤ (sv).toInt ∧ (sv).toInt ≤ 15 := by rw [← esv]; exact hw.2.2.1 148 _
        have hin6 : inR sv 16 = true := inR_of (by omega) (by omega)
        refine XW.fam (S' := (117, [(5, .int t), (4, .int y), (3, .int home), (2, .int done), (1, .int dv), (0, .ref 94)], [.int (I 135 (sv).toNatClampNeg), .int w], (sh, I, L, R))) (M := mr_335) rfl (show mcode 335 116 = some (116, .iaload, 1, 0, 0, 0, _) from rfl) (Or.inr (Or.inr (Or.inl ⟨_, lda_i c135 hin6, rfl⟩))) ?_
        rw [eroom]
        cases k7 : bcmp .ge w room with
        | true =>
          have gk7 : (room).toInt ≤ (w).toInt := icT (c := .ge) (a := (w).toInt) (b := (room).toInt) rfl rfl k7
          refine XW.fam (S' := (130, [(5, .int t), (4, .int y), (3, .int home), (2, .int done), (1, .int dv), (0, .ref 94)], [], (sh, I, L, R))) (M := mr_335) rfl (show mcode 335 117 = some (117, .if_icmp .ge 13, 3, 130, 0, 0, _) from rfl) (Or.inr (Or.inl ⟨130, [], by simp [brn, k7], rfl⟩)) ?_
          refine XW.fam (S' := (131, [(5, .int t), (4, .int y), (3, .int home), (2, .int done), (1, .int dv), (0, .ref 94)], [.ref 94], (sh, I, L, R))) (M := mr_335) rfl (show mcode 335 130 = some (130, .aload_n 0, 1, 0, 0, 0, _) from rfl) (Or.inl ⟨.ref 94, rfl, rfl⟩) ?_
          refine XW.fam (S' := (134, [(5, .int t), (4, .int y), (3, .int home), (2, .int done), (1, .int dv), (0, .ref 94)], [.ref 135], (sh, I, L, R))) (M := mr_335) rfl (show mcode 335 131 = some (131, .getfield 136, 3, 12, 61, 0, _) from rfl) (Or.inr (Or.inr (Or.inr (Or.inr (Or.inr (Or.inr (Or.inr (Or.inl ⟨_, _, rfl, fl_ld c94 r94_61 (by decide) (by decide), rfl⟩)))))))) ?_
          refine XW.fam (S' := (135, [(5, .int t), (4, .int y), (3, .int home), (2, .int done), (1, .int dv), (0, .ref 94)], [.ref 94, .ref 135], (sh, I, L, R))) (M := mr_335) rfl (show mcode 335 134 = some (134, .aload_n 0, 1, 0, 0, 0, _) from rfl) (Or.inl ⟨.ref 94, rfl, rfl⟩) ?_
          refine XW.fam (S' := (138, [(5, .int t), (4, .int y), (3, .int home), (2, .int done), (1, .int dv), (0, .ref 94)], [.ref 148, .ref 135], (sh, I, L, R))) (M := mr_335) rfl (show mcode 335 135 = some (135, .getfield 178, 3, 12, 80, 0, _) from rfl) (Or.inr (Or.inr (Or.inr (Or.inr (Or.inr (Or.inr (Or.inr (Or.inl ⟨_, _, rfl, fl_ld c94 r94_80 (by decide) (by decide), rfl⟩)))))))) ?_
          refine XW.fam (S' := (140, [(5, .int t), (4, .int y), (3, .int home), (2, .int done), (1, .int dv), (0, .ref 94)], [.int y, .ref 148, .ref 135], (sh, I, L, R))) (M := mr_335) rfl (show mcode 335 138 = some (138, .iload 4, 2, 0, 0, 0, _) from rfl) (Or.inl ⟨.int y, rfl, rfl⟩) ?_
          have hin8 : inR y 3 = true := inR_of (by omega) (by omega)
          refine XW.fam (S' := (141, [(5, .int t), (4, .int y), (3, .int home), (2, .int done), (1, .int dv), (0, .ref 94)], [.int (I 148 (y).toNatClampNeg), .ref 135], (sh, I, L, R))) (M := mr_335) rfl (show mcode 335 140 = some (140, .iaload, 1, 0, 0, 0, _) from rfl) (Or.inr (Or.inr (Or.inl ⟨_, lda_i c148 hin8, rfl⟩))) ?_
          rw [esv]
          have h148hin9 : 0 ≤ (sv).toInt ∧ (sv).toInt ≤ 15 := by rw [← esv]; exact hw.2.2.1 148 _
          have hin9 : inR sv 16 = true := inR_of (by omega) (by omega)
          refine XW.fam (S' := (142, [(5, .int t), (4, .int y), (3, .int home), (2, .int done), (1, .int dv), (0, .ref 94)], [.int (I 135 (sv).toNatClampNeg)], (sh, I, L, R))) (M := mr_335) rfl (show mcode 335 141 = some (141, .iaload, 1, 0, 0, 0, _) from rfl) (Or.inr (Or.inr (Or.inl ⟨_, lda_i c135 hin9, rfl⟩))) ?_
          rw [eroom]
          refine XW.sub (ls' := [(5, .int t), (4, .int y), (3, .int home), (2, .int done), (1, .int dv), (0, .ref 94)]) (List.forall_mem_cons.mpr ⟨List.mem_of_getElem? (i := 0) rfl, (List.forall_mem_cons.mpr ⟨List.mem_of_getElem? (i := 1) rfl, (List.forall_mem_cons.mpr ⟨List.mem_of_getElem? (i := 2) rfl, (List.forall_mem_cons.mpr ⟨List.mem_of_getElem? (i := 3) rfl, (List.forall_mem_cons.mpr ⟨List.mem_of_getElem? (i := 4) rfl, (List.forall_mem_cons.mpr ⟨List.mem_of_getElem? (i := 5) rfl, (fun _ h => absurd h List.not_mem_nil)⟩)⟩)⟩)⟩)⟩)⟩) ?_
          have egy : (room).toInt = yyBy (vRow J 135 148) (vxM I0 ma.toInt.toNat) s t.toInt.toNat := by
            unfold yyBy
            rw [hxw, ← hroom]
            split <;> omega
          refine mch_it (d := d) (zz := zz) (I0 := I0) (p0 := p0) hS hD hs hy hzz hkp0 IH (by omega) hw hf hkp hk154 hz2 egy (by omega) (fun {I2 L2} hw2 hf2 hkp2 hk2 hz3 gb => ?_)
          refine XW.fam (S' := (261, [(5, .int (t + Int32.ofInt 1)), (6, .int gb), (4, .int y), (3, .int home), (2, .int done), (1, .int dv), (0, .ref 94)], [], (sh, I2, L2, R))) (M := mr_335) rfl (show mcode 335 258 = some (258, .iinc 5 1, 3, 0, 0, 0, _) from rfl) (Or.inr (Or.inr (Or.inr (Or.inr (Or.inr (Or.inr (Or.inr (Or.inr (Or.inr ⟨5, 1, t, rfl, rfl, by decide, rfl⟩))))))))) ?_
          refine XW.fam (S' := (76, [(5, .int (t + Int32.ofInt 1)), (6, .int gb), (4, .int y), (3, .int home), (2, .int done), (1, .int dv), (0, .ref 94)], [], (sh, I2, L2, R))) (M := mr_335) rfl (show mcode 335 261 = some (261, .goto (-185), 3, 76, 0, 0, _) from rfl) (Or.inr (Or.inl ⟨76, [], rfl, rfl⟩)) ?_
          have eo := incO (m := t) (by omega) (by omega)
          have en : (t + Int32.ofInt 1).toInt.toNat = t.toInt.toNat + 1 := by omega
          refine XW.sub (ls' := [(5, .int (t + Int32.ofInt 1)), (4, .int y), (3, .int home), (2, .int done), (1, .int dv), (0, .ref 94)]) (List.forall_mem_cons.mpr ⟨List.mem_of_getElem? (i := 0) rfl, (List.forall_mem_cons.mpr ⟨List.mem_of_getElem? (i := 2) rfl, (List.forall_mem_cons.mpr ⟨List.mem_of_getElem? (i := 3) rfl, (List.forall_mem_cons.mpr ⟨List.mem_of_getElem? (i := 4) rfl, (List.forall_mem_cons.mpr ⟨List.mem_of_getElem? (i := 5) rfl, (List.forall_mem_cons.mpr ⟨List.mem_of_getElem? (i := 6) rfl, (fun _ h => absurd h List.not_mem_nil)⟩)⟩)⟩)⟩)⟩)⟩) ?_
          exact ih (t + Int32.ofInt 1) (by omega) (by omega) (by omega) hw2 hf2 hkp2 hk2 (by rw [en]; exact hz3) K
        | false =>
          have gk7 : ¬ ((room).toInt ≤ (w).toInt) := icF (c := .ge) (a := (w).toInt) (b := (room).toInt) rfl rfl k7
          refine XW.fam (S' := (120, [(5, .int t), (4, .int y), (3, .int home), (2, .int done), (1, .int dv), (0, .ref 94)], [], (sh, I, L, R))) (M := mr_335) rfl (show mcode 335 117 = some (117, .if_icmp .ge 13, 3, 130, 0, 0, _) from rfl) (Or.inr (Or.inl ⟨120, [], by simp [brn, k7], rfl⟩)) ?_
          refine XW.fam (S' := (121, [(5, .int t), (4, .int y), (3, .int home), (2, .int done), (1, .int dv), (0, .ref 94)], [.ref 94], (sh, I, L, R))) (M := mr_335) rfl (show mcode 335 120 = some (120, .aload_n 0, 1, 0, 0, 0, _) from rfl) (Or.inl ⟨.ref 94, rfl, rfl⟩) ?_
          refine XW.fam (S' := (124, [(5, .int t), (4, .int y), (3, .int home), (2, .int done), (1, .int dv), (0, .ref 94)], [.ref 150], (sh, I, L, R))) (M := mr_335) rfl (show mcode 335 121 = some (121, .getfield 184, 3, 12, 83, 0, _) from rfl) (Or.inr (Or.inr (Or.inr (Or.inr (Or.inr (Or.inr (Or.inr (Or.inl ⟨_, _, rfl, fl_ld c94 r94_83 (by decide) (by decide), rfl⟩)))))))) ?_
          refine XW.fam (S' := (126, [(5, .int t), (4, .int y), (3, .int home), (2, .int done), (1, .int dv), (0, .ref 94)], [.int t, .ref 150], (sh, I, L, R))) (M := mr_335) rfl (show mcode 335 124 = some (124, .iload 5, 2, 0, 0, 0, _) from rfl) (Or.inl ⟨.int t, rfl, rfl⟩) ?_
          have hin10 : inR t 3 = true := inR_of (by omega) (by omega)
          refine XW.fam (S' := (127, [(5, .int t), (4, .int y), (3, .int home), (2, .int done), (1, .int dv), (0, .ref 94)], [.int (I 150 (t).toNatClampNeg)], (sh, I, L, R))) (M := mr_335) rfl (show mcode 335 126 = some (126, .iaload, 1, 0, 0, 0, _) from rfl) (Or.inr (Or.inr (Or.inl ⟨_, lda_i c150 hin10, rfl⟩))) ?_
          rw [ew]
          refine XW.fam (S' := (142, [(5, .int t), (4, .int y), (3, .int home), (2, .int done), (1, .int dv), (0, .ref 94)], [.int w], (sh, I, L, R))) (M := mr_335) rfl (show mcode 335 127 = some (127, .goto 15, 3, 142, 0, 0, _) from rfl) (Or.inr (Or.inl ⟨142, [.int w], rfl, rfl⟩)) ?_
          refine XW.sub (ls' := [(5, .int t), (4, .int y), (3, .int home), (2, .int done), (1, .int dv), (0, .ref 94)]) (List.forall_mem_cons.mpr ⟨List.mem_of_getElem? (i := 0) rfl, (List.forall_mem_cons.mpr ⟨List.mem_of_getElem? (i := 1) rfl, (List.forall_mem_cons.mpr ⟨List.mem_of_getElem? (i := 2) rfl, (List.forall_mem_cons.mpr ⟨List.mem_of_getElem? (i := 3) rfl, (List.forall_mem_cons.mpr ⟨List.mem_of_getElem? (i := 4) rfl, (List.forall_mem_cons.mpr ⟨List.mem_of_getElem? (i := 5) rfl, (fun _ h => absurd h List.not_mem_nil)⟩)⟩)⟩)⟩)⟩)⟩) ?_
          have egy : (w).toInt = yyBy (vRow J 135 148) (vxM I0 ma.toInt.toNat) s t.toInt.toNat := by
            unfold yyBy
            rw [hxw, ← hroom]
            split <;> omega
          refine mch_it (d := d) (zz := zz) (I0 := I0) (p0 := p0) hS hD hs hy hzz hkp0 IH (by omega) hw hf hkp hk154 hz2 egy (by omega) (fun {I2 L2} hw2 hf2 hkp2 hk2 hz3 gb => ?_)
          refine XW.fam (S' := (261, [(5, .int (t + Int32.ofInt 1)), (6, .int gb), (4, .int y), (3, .int home), (2, .int done), (1, .int dv), (0, .ref 94)], [], (sh, I2, L2, R))) (M := mr_335) rfl (show mcode 335 258 = some (258, .iinc 5 1, 3, 0, 0, 0, _) from rfl) (Or.inr (Or.inr (Or.inr (Or.inr (Or.inr (Or.inr (Or.inr (Or.inr (Or.inr ⟨5, 1, t, rfl, rfl, by decide, rfl⟩))))))))) ?_
          refine XW.fam (S' := (76, [(5, .int (t + Int32.ofInt 1)), (6, .int gb), (4, .int y), (3, .int home), (2, .int done), (1, .int dv), (0, .ref 94)], [], (sh, I2, L2, R))) (M := mr_335) rfl (show mcode 335 261 = some (261, .goto (-185), 3, 76, 0, 0, _) from rfl) (Or.inr (Or.inl ⟨76, [], rfl, rfl⟩)) ?_
          have eo := incO (m := t) (by omega) (by omega)
          have en : (t + Int32.ofInt 1).toInt.toNat = t.toInt.toNat + 1 := by omega
          refine XW.sub (ls' := [(5, .int (t + Int32.ofInt 1)), (4, .int y), (3, .int home), (2, .int done), (1, .int dv), (0, .ref 94)]) (List.forall_mem_cons.mpr ⟨List.mem_of_getElem? (i := 0) rfl, (List.forall_mem_cons.mpr ⟨List.mem_of_getElem? (i := 2) rfl, (List.forall_mem_cons.mpr ⟨List.mem_of_getElem? (i := 3) rfl, (List.forall_mem_cons.mpr ⟨List.mem_of_getElem? (i := 4) rfl, (List.forall_mem_cons.mpr ⟨List.mem_of_getElem? (i := 5) rfl, (List.forall_mem_cons.mpr ⟨List.mem_of_getElem? (i := 6) rfl, (fun _ h => absurd h List.not_mem_nil)⟩)⟩)⟩)⟩)⟩)⟩) ?_
          exact ih (t + Int32.ofInt 1) (by omega) (by omega) (by omega) hw2 hf2 hkp2 hk2 (by rw [en]; exact hz3) K
      | false =>
        have gk3 : ¬ (¬ (w).toInt = 0) := icF (c := .ne) (a := (w).toInt) (b := 0) rfl (by decide) k3
        refine XW.fam (S' := (95, [(5, .int t), (4, .int y), (3, .int home), (2, .int done), (1, .int dv), (0, .ref 94)], [], (sh, I, L, R))) (M := mr_335) rfl (show mcode 335 92 = some (92, .ifCond .ne 6, 3, 98, 0, 0, _) from rfl) (Or.inr (Or.inl ⟨95, [], by simp [brn, k3], rfl⟩)) ?_
        refine XW.fam (S' := (258, [(5, .int t), (4, .int y), (3, .int home), (2, .int done), (1, .int dv), (0, .ref 94)], [], (sh, I, L, R))) (M := mr_335) rfl (show mcode 335 95 = some (95, .goto 163, 3, 258, 0, 0, _) from rfl) (Or.inr (Or.inl ⟨258, [], rfl, rfl⟩)) ?_
        refine XW.fam (S' := (261, [(5, .int (t + Int32.ofInt 1)), (4, .int y), (3, .int home), (2, .int done), (1, .int dv), (0, .ref 94)], [], (sh, I, L, R))) (M := mr_335) rfl (show mcode 335 258 = some (258, .iinc 5 1, 3, 0, 0, 0, _) from rfl) (Or.inr (Or.inr (Or.inr (Or.inr (Or.inr (Or.inr (Or.inr (Or.inr (Or.inr ⟨5, 1, t, rfl, rfl, by decide, rfl⟩))))))))) ?_
        refine XW.fam (S' := (76, [(5, .int (t + Int32.ofInt 1)), (4, .int y), (3, .int home), (2, .int done), (1, .int dv), (0, .ref 94)], [], (sh, I, L, R))) (M := mr_335) rfl (show mcode 335 261 = some (261, .goto (-185), 3, 76, 0, 0, _) from rfl) (Or.inr (Or.inl ⟨76, [], rfl, rfl⟩)) ?_
        have eo := incO (m := t) (by omega) (by omega)
        have en : (t + Int32.ofInt 1).toInt.toNat = t.toInt.toNat + 1 := by omega
        refine XW.sub (ls' := [(5, .int (t + Int32.ofInt 1)), (4, .int y), (3, .int home), (2, .int done), (1, .int dv), (0, .ref 94)]) (List.forall_mem_cons.mpr ⟨List.mem_of_getElem? (i := 0) rfl, (List.forall_mem_cons.mpr ⟨List.mem_of_getElem? (i := 1) rfl, (List.forall_mem_cons.mpr ⟨List.mem_of_getElem? (i := 2) rfl, (List.forall_mem_cons.mpr ⟨List.mem_of_getElem? (i := 3) rfl, (List.forall_mem_cons.mpr ⟨List.mem_of_getElem? (i := 4) rfl, (List.forall_mem_cons.mpr ⟨List.mem_of_getElem? (i := 5) rfl, (fun _ h => absurd h List.not_mem_nil)⟩)⟩)⟩)⟩)⟩)⟩) ?_
        have eg : (yyG ma.toInt.toNat mc.toInt.toNat (vRow J 135 148) (vRow J 136 148) dv.toInt (vxM I0 ma.toInt.toNat) s) t.toInt.toNat = -1 := if_neg (show ¬ 0 < (vxM I0 ma.toInt.toNat).1 t.toInt.toNat by rw [hxw]; omega)
        refine ih (t + Int32.ofInt 1) (by omega) (by omega) (by omega) hw hf hkp hk154 ?_ K
        rw [en, yyMP_skip eg]
        exact hz2
set_option maxRecDepth 100000 in
theorem tc_mcho {d : Nat} {sh : List mE} {J : Nat → Nat → Int32} {R : Nat → Nat → Option Nat} {ma mc dv : Int32} (hS : stM J ma mc) : ∀ (zz : Nat) {I : Nat → Nat → Int32} {L : Nat → Nat → Int64} (done home : Int32), wOK (mkT vV []) (wE sh R) (sh, I, L, R) → fresh (sh, I, L, R) → (∀ q k, inm mdMx q k = false → I q k = J q k) → dyM J I ma mc done home → yyNu (vxM I ma.toInt.toNat) ma.toInt.toNat < (zz : Int) → Tc 335 (d + 2 + zz) 0 0 [.ref 94, .int dv, .int done, .int home] (sh, I, L, R) (QMh sh R J dv.toInt ma.toInt.toNat mc.toInt.toNat I done home) := by
  have z0 : (0 : Int32).toInt = 0 := rfl
  have z1 : (1 : Int32).toInt = 1 := rfl
  have z9 : (9 : Int32).toInt = 9 := rfl
  intro zz
  obtain ⟨⟨hc2, hc3⟩, ha, hc', hS4⟩ := id hS
  induction zz with
  | zero =>
    intro I L done home hw hf hkp hD hzz
    exfalso
    have := yyNu_pos (x := (vxM I ma.toInt.toNat)) (n := ma.toInt.toNat) (fun k _ => (dyM_c hD k).2)
    omega
  | succ zz ihz =>
    intro I L done home hw hf hkp hD hzz
    obtain ⟨d1, d2, d3, d4, d5⟩ := id hD
    have hNn := yyNu_pos (x := (vxM I ma.toInt.toNat)) (n := ma.toInt.toNat) (fun k _ => (dyM_c hD k).2)
    have c94 : sh[94]? = some (.inr 12) := hw.1 94 _ rfl
    have c153 : sh[153]? = some (.inl (.boolean, 3)) := hw.1 153 _ rfl
    have c154 : sh[154]? = some (.inl (.int, 12)) := hw.1 154 _ rfl
    have r94_86 : R 94 86 = some 153 := hw.2.1 94 86 _ rfl
    have r94_87 : R 94 87 = some 154 := hw.2.1 94 87 _ rfl
    refine Tc.of mr_335 rfl (show 4 ≤ mr_335.2.2.2.1 by decide) ?_
    refine XW.fam (S' := (1, [(0, .ref 94), (1, .int dv), (2, .int done), (3, .int home)], [.ref 94], (sh, I, L, R))) (M := mr_335) rfl (show mcode 335 0 = some (0, .aload_n 0, 1, 0, 0, 0, _) from rfl) (Or.inl ⟨.ref 94, rfl, rfl⟩) ?_
    refine XW.fam (S' := (2, [(0, .ref 94), (1, .int dv), (2, .int done), (3, .int home)], [.int dv, .ref 94], (sh, I, L, R))) (M := mr_335) rfl (show mcode 335 1 = some (1, .iload_n 1, 1, 0, 0, 0, _) from rfl) (Or.inl ⟨.int dv, rfl, rfl⟩) ?_
    refine XW.call (d' := d) (mc' := 0) (ms' := 0) (av := [.ref 94, .int dv]) (rest := []) (M := mr_335) (Ma := mr_336) rfl (show mcode 335 2 = some (2, .invokevirtual 557, 3, 336, 0, 0, _) from rfl) rfl (by decide) (by decide) ⟨rfl, 94, _, rfl, c94⟩ rfl rfl (show 0 ≤ 8 by decide) (tc_chooser (d := d) (J := J) (ma := ma) (mc := mc) (dv := dv) (done := done) (home := home) hw hS hkp hD) (by omega) (Nat.zero_le _) (Nat.zero_le _) (fun rQ1 wQ1 Q1 => ?_)
    obtain ⟨⟨y, rfl, hch⟩, rfl⟩ := Q1
    refine XW.fam (S' := (7, [(4, .int y), (0, .ref 94), (1, .int dv), (2, .int done), (3, .int home)], [], (sh, I, L, R))) (M := mr_335) rfl (show mcode 335 5 = some (5, .istore 4, 2, 0, 0, 0, _) from rfl) (Or.inr (Or.inr (Or.inr (Or.inr (Or.inr (Or.inr (Or.inl ⟨_, [], _, rfl, rfl, rfl⟩))))))) ?_
    refine XW.fam (S' := (9, [(4, .int y), (0, .ref 94), (1, .int dv), (2, .int done), (3, .int home)], [.int y], (sh, I, L, R))) (M := mr_335) rfl (show mcode 335 7 = some (7, .iload 4, 2, 0, 0, 0, _) from rfl) (Or.inl ⟨.int y, rfl, rfl⟩) ?_
    cases k2 : bcmp .ge y 0 with
    | true =>
      have gk2 : 0 ≤ (y).toInt := icT (c := .ge) (a := (y).toInt) (b := 0) rfl (by decide) k2
      refine XW.fam (S' := (73, [(4, .int y), (0, .ref 94), (1, .int dv), (2, .int done), (3, .int home)], [], (sh, I, L, R))) (M := mr_335) rfl (show mcode 335 9 = some (9, .ifCond .ge 64, 3, 73, 0, 0, _) from rfl) (Or.inr (Or.inl ⟨73, [], by simp [brn, k2], rfl⟩)) ?_
      refine XW.fam (S' := (74, [(4, .int y), (0, .ref 94), (1, .int dv), (2, .int done), (3, .int home)], [.int 0], (sh, I, L, R))) (M := mr_335) rfl (show mcode 335 73 = some (73, .iconst 0, 1, 0, 0, 0, _) from rfl) (Or.inl ⟨.int 0, rfl, rfl⟩) ?_
      refine XW.fam (S' := (76, [(5, .int 0), (4, .int y), (0, .ref 94), (1, .int dv), (2, .int done), (3, .int home)], [], (sh, I, L, R))) (M := mr_335) rfl (show mcode 335 74 = some (74, .istore 5, 2, 0, 0, 0, _) from rfl) (Or.inr (Or.inr (Or.inr (Or.inr (Or.inr (Or.inr (Or.inl ⟨_, [], _, rfl, rfl, rfl⟩))))))) ?_
      refine XW.sub (ls' := [(5, .int 0), (4, .int y), (3, .int home), (2, .int done), (1, .int dv), (0, .ref 94)]) (List.forall_mem_cons.mpr ⟨List.mem_of_getElem? (i := 0) rfl, (List.forall_mem_cons.mpr ⟨List.mem_of_getElem? (i := 1) rfl, (List.forall_mem_cons.mpr ⟨List.mem_of_getElem? (i := 5) rfl, (List.forall_mem_cons.mpr ⟨List.mem_of_getElem? (i := 4) rfl, (List.forall_mem_cons.mpr ⟨List.mem_of_getElem? (i := 3) rfl, (List.forall_mem_cons.mpr ⟨List.mem_of_getElem? (i := 2) rfl, (fun _ h => absurd h List.not_mem_nil)⟩)⟩)⟩)⟩)⟩)⟩) ?_
      obtain ⟨s, hs, hy⟩ : ∃ s : Nat, yyChs ma.toInt.toNat mc.toInt.toNat (vRow J 136 148) dv.toInt (vxM I ma.toInt.toNat) = some s ∧ y.toInt = (s : Int) := by
        rcases hch with ⟨e, es⟩ | ⟨s, e, es⟩
        · exfalso
          omega
        · exact ⟨s, e, es⟩
      obtain ⟨q1, q2, -⟩ := yyChs_some hs
      obtain ⟨q3, q4, -⟩ := yyEl_of q2
      have hN1 := yyNu_one (x := (vxM I ma.toInt.toNat)) (fun k => (dyM_c hD k).2) q3 q4 q1
      have ey : (y).toNatClampNeg = s := by show y.toInt.toNat = s; omega
      refine mch_lp (d := d) (zz := zz) (J := J) (I0 := I) (p0 := bsM I) hS hD hs hy (by omega) hkp ihz 4 0 (by decide) (by omega) (by omega) hw hf (fun _ _ _ => rfl) (fun _ _ => rfl) ?_ (fun {I3 L3} hw3 hf3 hk3 hk4 hz3 t => ?_)
      · show bsM I = upY (-1) [] home.toInt _ (bsM I)
        rw [upY_neg (by decide)]
      · skip
        refine XW.fam (S' := (265, [(5, .int t), (4, .int y), (3, .int home), (2, .int done), (1, .int dv), (0, .ref 94)], [.ref 94], (sh, I3, L3, R))) (M := mr_335) rfl (show mcode 335 264 = some (264, .aload_n 0, 1, 0, 0, 0, _) from rfl) (Or.inl ⟨.ref 94, rfl, rfl⟩) ?_
        refine XW.fam (S' := (268, [(5, .int t), (4, .int y), (3, .int home), (2, .int done), (1, .int dv), (0, .ref 94)], [.ref 154], (sh, I3, L3, R))) (M := mr_335) rfl (show mcode 335 265 = some (265, .getfield 196, 3, 12, 87, 0, _) from rfl) (Or.inr (Or.inr (Or.inr (Or.inr (Or.inr (Or.inr (Or.inr (Or.inl ⟨_, _, rfl, fl_ld c94 r94_87 (by decide) (by decide), rfl⟩)))))))) ?_
        refine XW.fam (S' := (269, [(5, .int t), (4, .int y), (3, .int home), (2, .int done), (1, .int dv), (0, .ref 94)], [.int done, .ref 154], (sh, I3, L3, R))) (M := mr_335) rfl (show mcode 335 268 = some (268, .iload_n 2, 1, 0, 0, 0, _) from rfl) (Or.inl ⟨.int done, rfl, rfl⟩) ?_
        refine XW.fam (S' := (271, [(5, .int t), (4, .int y), (3, .int home), (2, .int done), (1, .int dv), (0, .ref 94)], [.int 9, .int done, .ref 154], (sh, I3, L3, R))) (M := mr_335) rfl (show mcode 335 269 = some (269, .bipush 9, 2, 0, 0, 0, _) from rfl) (Or.inl ⟨.int 9, rfl, rfl⟩) ?_
        have hin3 : inR done 12 = true := inR_of (by omega) (by omega)
        obtain ⟨I4, eI4⟩ : ∃ X, X = up2 I3 154 (done).toNatClampNeg 9 := ⟨_, rfl⟩
        refine XW.fam (S' := (272, [(5, .int t), (4, .int y), (3, .int home), (2, .int done), (1, .int dv), (0, .ref 94)], [], (sh, I4, L3, R))) (M := mr_335) rfl (show mcode 335 271 = some (271, .iastore, 1, 0, 0, 0, _) from rfl) (Or.inr (Or.inr (Or.inr (Or.inl ⟨_, _, by rw [eI4]; exact sta_i c154 hin3, rfl⟩)))) ?_
        have hwI4 : wOK (mkT vV []) (wE sh R) (sh, I4, L3, R) := by rw [eI4]; exact wOK_u2 (q := 154) (k := (done).toNatClampNeg) (x := 9) wE_put hw3 rfl (by show (0 : Int) ≤ _; omega) (by show _ ≤ (9 : Int); omega)
        have hfI4 : fresh (sh, I4, L3, R) := by rw [eI4]; exact fresh_I hf3 c154
        have v5 : I4 154 (done).toNatClampNeg = 9 := by rw [eI4]; exact up2_eq
        refine XW.fam (S' := (273, [(5, .int t), (4, .int y), (3, .int home), (2, .int done), (1, .int dv), (0, .ref 94)], [.ref 94], (sh, I4, L3, R))) (M := mr_335) rfl (show mcode 335 272 = some (272, .aload_n 0, 1, 0, 0, 0, _) from rfl) (Or.inl ⟨.ref 94, rfl, rfl⟩) ?_
        refine XW.fam (S' := (276, [(5, .int t), (4, .int y), (3, .int home), (2, .int done), (1, .int dv), (0, .ref 94)], [.ref 153], (sh, I4, L3, R))) (M := mr_335) rfl (show mcode 335 273 = some (273, .getfield 193, 3, 12, 86, 0, _) from rfl) (Or.inr (Or.inr (Or.inr (Or.inr (Or.inr (Or.inr (Or.inr (Or.inl ⟨_, _, rfl, fl_ld c94 r94_86 (by decide) (by decide), rfl⟩)))))))) ?_
        refine XW.fam (S' := (278, [(5, .int t), (4, .int y), (3, .int home), (2, .int done), (1, .int dv), (0, .ref 94)], [.int y, .ref 153], (sh, I4, L3, R))) (M := mr_335) rfl (show mcode 335 276 = some (276, .iload 4, 2, 0, 0, 0, _) from rfl) (Or.inl ⟨.int y, rfl, rfl⟩) ?_
        refine XW.fam (S' := (279, [(5, .int t), (4, .int y), (3, .int home), (2, .int done), (1, .int dv), (0, .ref 94)], [.int 1, .int y, .ref 153], (sh, I4, L3, R))) (M := mr_335) rfl (show mcode 335 278 = some (278, .iconst 1, 1, 0, 0, 0, _) from rfl) (Or.inl ⟨.int 1, rfl, rfl⟩) ?_
        have hin6 : inR y 3 = true := inR_of (by omega) (by omega)
        have b8 : vp_nar .boolean (1 : Int32) = 1 := rfl
        obtain ⟨I7, eI7⟩ : ∃ X, X = up2 I4 153 (y).toNatClampNeg 1 := ⟨_, rfl⟩
        refine XW.fam (S' := (280, [(5, .int t), (4, .int y), (3, .int home), (2, .int done), (1, .int dv), (0, .ref 94)], [], (sh, I7, L3, R))) (M := mr_335) rfl (show mcode 335 279 = some (279, .bastore, 1, 0, 0, 0, _) from rfl) (Or.inr (Or.inr (Or.inr (Or.inl ⟨_, _, by rw [eI7]; exact sta_z b8 c153 hin6, rfl⟩)))) ?_
        have hwI7 : wOK (mkT vV []) (wE sh R) (sh, I7, L3, R) := by rw [eI7]; exact wOK_u2 (q := 153) (k := (y).toNatClampNeg) (x := 1) wE_put hwI4 rfl (by show (0 : Int) ≤ _; omega) (by show _ ≤ (1 : Int); omega)
        have hfI7 : fresh (sh, I7, L3, R) := by rw [eI7]; exact fresh_I hfI4 c153
        have v9 : I7 154 (done).toNatClampNeg = 9 := by rw [eI7, up2_ne (fun e => by cases e.1)]; exact v5
        have v10 : I7 153 (y).toNatClampNeg = 1 := by rw [eI7]; exact up2_eq
        refine XW.fam (S' := (281, [(5, .int t), (4, .int y), (3, .int home), (2, .int done), (1, .int dv), (0, .ref 94)], [.ref 94], (sh, I7, L3, R))) (M := mr_335) rfl (show mcode 335 280 = some (280, .aload_n 0, 1, 0, 0, 0, _) from rfl) (Or.inl ⟨.ref 94, rfl, rfl⟩) ?_
        refine XW.fam (S' := (282, [(5, .int t), (4, .int y), (3, .int home), (2, .int done), (1, .int dv), (0, .ref 94)], [.int dv, .ref 94], (sh, I7, L3, R))) (M := mr_335) rfl (show mcode 335 281 = some (281, .iload_n 1, 1, 0, 0, 0, _) from rfl) (Or.inl ⟨.int dv, rfl, rfl⟩) ?_
        refine XW.fam (S' := (283, [(5, .int t), (4, .int y), (3, .int home), (2, .int done), (1, .int dv), (0, .ref 94)], [.int done, .int dv, .ref 94], (sh, I7, L3, R))) (M := mr_335) rfl (show mcode 335 282 = some (282, .iload_n 2, 1, 0, 0, 0, _) from rfl) (Or.inl ⟨.int done, rfl, rfl⟩) ?_
        refine XW.fam (S' := (284, [(5, .int t), (4, .int y), (3, .int home), (2, .int done), (1, .int dv), (0, .ref 94)], [.int 1, .int done, .int dv, .ref 94], (sh, I7, L3, R))) (M := mr_335) rfl (show mcode 335 283 = some (283, .iconst 1, 1, 0, 0, 0, _) from rfl) (Or.inl ⟨.int 1, rfl, rfl⟩) ?_
        refine XW.fam (S' := (285, [(5, .int t), (4, .int y), (3, .int home), (2, .int done), (1, .int dv), (0, .ref 94)], [.int (done + 1), .int dv, .ref 94], (sh, I7, L3, R))) (M := mr_335) rfl (show mcode 335 284 = some (284, .iadd, 1, 0, 0, 0, _) from rfl) (Or.inr (Or.inr (Or.inr (Or.inr (Or.inr (Or.inl ⟨_, rfl, rfl⟩)))))) ?_
        refine XW.fam (S' := (286, [(5, .int t), (4, .int y), (3, .int home), (2, .int done), (1, .int dv), (0, .ref 94)], [.int home, .int (done + 1), .int dv, .ref 94], (sh, I7, L3, R))) (M := mr_335) rfl (show mcode 335 285 = some (285, .iload_n 3, 1, 0, 0, 0, _) from rfl) (Or.inl ⟨.int home, rfl, rfl⟩) ?_
        have f1 := inc32 (m := done) (by omega) (by omega)
        have kI : ∀ q k, ¬ q = 154 → ¬ (q = 153 ∧ k = s) → inm mdMh q k = false → I7 q k = I q k := by
          intro q k a1 a2 a5
          rw [eI7, up2_ne (fun e => a2 ⟨e.1, by rw [e.2, ey]⟩), eI4, up2_ne (fun e => a1 e.1)]
          exact hk3 q k a5
        have v153 : I7 153 s = 1 := by rw [← ey, eI7]; exact up2_eq
        obtain ⟨gx, gd⟩ := dyM_rs (I2 := I7) (done' := (done + 1)) hD hs v153 (fun k hk => kI 153 k (by decide) (fun e => hk e.2) rfl) (fun k => kI 150 k (by decide) (fun e => by cases e.1) rfl) (fun k => kI 151 k (by decide) (fun e => by cases e.1) rfl) (fun k => kI 152 k (by decide) (fun e => by cases e.1) rfl) f1
        have gn := yyNu_rs q3 q4 q1
        refine XW.call (d' := d + 2 + zz) (mc' := 0) (ms' := 0) (av := [.ref 94, .int dv, .int (done + 1), .int home]) (rest := []) (M := mr_335) (Ma := mr_335) rfl (show mcode 335 286 = some (286, .invokevirtual 566, 3, 335, 0, 0, _) from rfl) rfl (by decide) (by decide) ⟨rfl, 94, _, rfl, c94⟩ rfl rfl (show 0 ≤ 8 by decide) (ihz (I := I7) (L := L3) (done + 1) home hwI7 hfI7 (fun q k hq => (kI q k (fun e => by rw [e] at hq; cases hq) (fun e => by rw [e.1] at hq; cases hq) (inm_mx hq)).trans (hkp q k hq)) gd (by rw [gx]; omega)) (by omega) (Nat.zero_le _) (Nat.zero_le _) (fun rQ11 wQ11 Q11 => ?_)
        obtain ⟨hrQ11, hfQ11, hwQ11, hIQ11, hPQ11, hZQ11⟩ := Q11
        subst hrQ11
        obtain ⟨shQ11, IQ11, LQ11, RQ11⟩ := wQ11
        obtain rfl : sh = shQ11 := hwQ11.2.2.2.1.symm
        obtain rfl : R = RQ11 := hwQ11.2.2.2.2.1.symm
        refine XW.fam (S' := (290, [(5, .int t), (4, .int y), (3, .int home), (2, .int done), (1, .int dv), (0, .ref 94)], [.ref 94], (sh, IQ11, LQ11, R))) (M := mr_335) rfl (show mcode 335 289 = some (289, .aload_n 0, 1, 0, 0, 0, _) from rfl) (Or.inl ⟨.ref 94, rfl, rfl⟩) ?_
        refine XW.fam (S' := (293, [(5, .int t), (4, .int y), (3, .int home), (2, .int done), (1, .int dv), (0, .ref 94)], [.ref 153], (sh, IQ11, LQ11, R))) (M := mr_335) rfl (show mcode 335 290 = some (290, .getfield 193, 3, 12, 86, 0, _) from rfl) (Or.inr (Or.inr (Or.inr (Or.inr (Or.inr (Or.inr (Or.inr (Or.inl ⟨_, _, rfl, fl_ld c94 r94_86 (by decide) (by decide), rfl⟩)))))))) ?_
        refine XW.fam (S' := (295, [(5, .int t), (4, .int y), (3, .int home), (2, .int done), (1, .int dv), (0, .ref 94)], [.int y, .ref 153], (sh, IQ11, LQ11, R))) (M := mr_335) rfl (show mcode 335 293 = some (293, .iload 4, 2, 0, 0, 0, _) from rfl) (Or.inl ⟨.int y, rfl, rfl⟩) ?_
        refine XW.fam (S' := (296, [(5, .int t), (4, .int y), (3, .int home), (2, .int done), (1, .int dv), (0, .ref 94)], [.int 0, .int y, .ref 153], (sh, IQ11, LQ11, R))) (M := mr_335) rfl (show mcode 335 295 = some (295, .iconst 0, 1, 0, 0, 0, _) from rfl) (Or.inl ⟨.int 0, rfl, rfl⟩) ?_
        have hin12 : inR y 3 = true := inR_of (by omega) (by omega)
        have b14 : vp_nar .boolean (0 : Int32) = 0 := rfl
        obtain ⟨I13, eI13⟩ : ∃ X, X = up2 IQ11 153 (y).toNatClampNeg 0 := ⟨_, rfl⟩
        refine XW.fam (S' := (297, [(5, .int t), (4, .int y), (3, .int home), (2, .int done), (1, .int dv), (0, .ref 94)], [], (sh, I13, LQ11, R))) (M := mr_335) rfl (show mcode 335 296 = some (296, .bastore, 1, 0, 0, 0, _) from rfl) (Or.inr (Or.inr (Or.inr (Or.inl ⟨_, _, by rw [eI13]; exact sta_z b14 c153 hin12, rfl⟩)))) ?_
        have hwI13 : wOK (mkT vV []) (wE sh R) (sh, I13, LQ11, R) := by rw [eI13]; exact wOK_u2 (q := 153) (k := (y).toNatClampNeg) (x := 0) wE_put hwQ11 rfl (by show (0 : Int) ≤ _; omega) (by show _ ≤ (1 : Int); omega)
        have hfI13 : fresh (sh, I13, LQ11, R) := by rw [eI13]; exact fresh_I hfQ11 c153
        have v15 : I13 153 (y).toNatClampNeg = 0 := by rw [eI13]; exact up2_eq
        refine XW.ret (r := none) ⟨rfl, by decide +kernel⟩ ?_
        have n3 : ∀ q k, ¬ (q = 153 ∧ k = s) → I13 q k = IQ11 q k := by
          intro q k a1
          rw [eI13, up2_ne (fun e => a1 ⟨e.1, by rw [e.2, ey]⟩)]
        refine ⟨rfl, hfI13, hwI13, fun q k hq => ?_, fun k hk => ?_, ?_⟩
        · show I13 q k = I q k
          by_cases a1 : q = 153 ∧ k = s
          · rw [a1.1, a1.2, ← ey, eI13, up2_eq, ey]
            have x2 : (vxM I ma.toInt.toNat).2.2 s = decide (¬ (I 153 s).toInt = 0) := if_pos q1
            rw [x2] at q3
            have := of_decide_eq_false q3
            exact (Int32.toInt_inj.mp (by show (I 153 s).toInt = 0; omega)).symm
          rw [n3 q k a1, (show IQ11 q k = I7 q k from hIQ11 q k hq)]
          exact kI q k (fun z => by rw [z] at hq; cases hq) a1 hq
        · show I13 154 k = I 154 k
          rw [n3 154 k (fun e => by cases e.1), (show IQ11 154 k = I7 154 k from hPQ11 k (by rw [f1]; omega)), eI7, up2_ne (fun e => by cases e.1), eI4, up2_ne (fun z => by have := z.2; have mdn : (done).toNatClampNeg = done.toInt.toNat := rfl; omega)]
          exact hk4 k hk
        · show bsM I13 = _
          have bI : bsM I13 = bsM IQ11 := bsM_congr (n3 94 91 (fun e => by cases e.1)) (n3 94 90 (fun e => by cases e.1)) (n3 94 89 (fun e => by cases e.1)) (fun k => n3 155 k (fun e => by cases e.1))
          have n5 : ∀ q k, ¬ q = 153 → ¬ q = 154 → I7 q k = I3 q k := by
            intro q k a1 a2
            rw [eI7, up2_ne (fun e => a1 e.1), eI4, up2_ne (fun e => a2 e.1)]
          have bJ : bsM I7 = bsM I3 := bsM_congr (n5 94 91 (by decide) (by decide)) (n5 94 90 (by decide) (by decide)) (n5 94 89 (by decide) (by decide)) (fun k => n5 155 k (by decide) (by decide))
          have hZ : bsM IQ11 = upY (yyW ma.toInt.toNat mc.toInt.toNat (vRow J 135 148) (vRow J 136 148) dv.toInt (vxM I7 ma.toInt.toNat)) (yyL ma.toInt.toNat mc.toInt.toNat (vRow J 135 148) (vRow J 136 148) dv.toInt (vxM I7 ma.toInt.toNat)) home.toInt (rwL I7 154 (done + 1).toInt.toNat) (bsM I7) := hZQ11
          have hx0 : ∀ k, k < ma.toInt.toNat → 0 ≤ (vxM I ma.toInt.toNat).2.1 k := fun k _ => (dyM_c hD k).1
          have eW := yyG_mx (B := (vRow J 135 148)) (P := (vRow J 136 148)) (d := dv.toInt) (by omega) (fun _ => vRow_ge) hx0 (dyM_w hD) hs
          have hWs := yyW_some (B := (vRow J 135 148)) (by omega) hx0 hs
          have hle := (yyMx_ge (g := fun p => if 0 < (vxM I ma.toInt.toNat).1 p then yyBy (vRow J 135 148) (vxM I ma.toInt.toNat) s p + yyW ma.toInt.toNat mc.toInt.toNat (vRow J 135 148) (vRow J 136 148) dv.toInt (yyGo (vxM I ma.toInt.toNat) s p (yyBy (vRow J 135 148) (vxM I ma.toInt.toNat) s p)) else 0) (z := yyW ma.toInt.toNat mc.toInt.toNat (vRow J 135 148) (vRow J 136 148) dv.toInt (yyRs (vxM I ma.toInt.toNat) s)) (n := mc.toInt.toNat)).1
          rw [← hWs] at hle
          have hWn := (yyW_rng (a := ma.toInt.toNat) (c := mc.toInt.toNat) (B := (vRow J 135 148)) (P := (vRow J 136 148)) (d := dv.toInt) (by omega) (fun _ => vRow_ge) _ (vxM I ma.toInt.toNat) (Nat.le_refl _) hx0 (dyM_w hD)).1
          rw [bI, hZ, bJ, hz3, yyMP_fst, ← eW, ← yyL_some (by omega) hx0 hs, gx]
          exact upY_no hWn hle
    | false =>
      have gk2 : ¬ (0 ≤ (y).toInt) := icF (c := .ge) (a := (y).toInt) (b := 0) rfl (by decide) k2
      refine XW.fam (S' := (12, [(4, .int y), (0, .ref 94), (1, .int dv), (2, .int done), (3, .int home)], [], (sh, I, L, R))) (M := mr_335) rfl (show mcode 335 9 = some (9, .ifCond .ge 64, 3, 73, 0, 0, _) from rfl) (Or.inr (Or.inl ⟨12, [], by simp [brn, k2], rfl⟩)) ?_
      refine XW.sub (ls' := [(4, .int y), (3, .int home), (2, .int done), (1, .int dv), (0, .ref 94)]) (List.forall_mem_cons.mpr ⟨List.mem_of_getElem? (i := 0) rfl, (List.forall_mem_cons.mpr ⟨List.mem_of_getElem? (i := 4) rfl, (List.forall_mem_cons.mpr ⟨List.mem_of_getElem? (i := 3) rfl, (List.forall_mem_cons.mpr ⟨List.mem_of_getElem? (i := 2) rfl, (List.forall_mem_cons.mpr ⟨List.mem_of_getElem? (i := 1) rfl, (fun _ h => absurd h List.not_mem_nil)⟩)⟩)⟩)⟩)⟩) ?_
      refine mch_leaf hw hf (by omega) ?_
      rcases hch with ⟨e, -⟩ | ⟨s, e, es⟩
      · exact e
      · exfalso
        omega
