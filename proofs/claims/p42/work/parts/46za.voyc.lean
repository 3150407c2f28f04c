/-! ===== voyages of our side (wip/genvoy.py) ===== -/
def vPos (v : Int) : Int := if 1 ≤ v then v else 1
theorem vPos_of {v : Int} (h : 1 ≤ v) : vPos v = v := if_pos h
theorem vPos_ge (v : Int) : 1 ≤ vPos v := by
  unfold vPos
  split <;> omega
/-- row q by what row t tells, 1 at least -/
def vRow (J : Nat → Nat → Int32) (q t : Nat) (k : Nat) : Int := vPos (J q (J t k).toNatClampNeg).toInt
theorem vRow_ge {J : Nat → Nat → Int32} {q t k : Nat} : 1 ≤ vRow J q t k := vPos_ge _
theorem vRow_of {J : Nat → Nat → Int32} {q t k : Nat} (h : 1 ≤ (J q (J t k).toNatClampNeg).toInt) : vRow J q t k = (J q (J t k).toNatClampNeg).toInt := vPos_of h
theorem vM_el {P : Nat → Int} {d : Int} (hP : ∀ k, 1 ≤ P k) (x : yySt) (k : Nat) (h : yyEl P d x k = true) : x.2.1 k < vMx d (P k) := (vMx_iff (by have := hP k; omega)).mpr (yyEl_of h).2
theorem yyT_nn {W : Nat → Int} : ∀ {n : Nat}, (∀ p, p < n → 0 ≤ W p) → 0 ≤ yyT W n
  | 0, _ => Int.le_refl _
  | n + 1, h => by
    have ih := yyT_nn (n := n) (fun p hp => h p (by omega))
    have := h n (by omega)
    show 0 ≤ yyT W n + W n
    omega
theorem yyT_le {W : Nat → Int} : ∀ {n p : Nat}, (∀ p, p < n → 0 ≤ W p) → p < n → W p ≤ yyT W n
  | 0, _, _, hp => absurd hp (Nat.not_lt_zero _)
  | n + 1, p, h, hp => by
    have i0 := yyT_nn (n := n) (fun p hp => h p (by omega))
    have hn := h n (by omega)
    show W p ≤ yyT W n + W n
    by_cases e : p = n
    · rw [e]
      omega
    · have := yyT_le (n := n) (p := p) (fun p hp => h p (by omega)) (by omega)
      omega
theorem yySome_no {W : Nat → Int} {n : Nat} (h : ∀ p, p < n → 0 ≤ W p) (t : yyT W n = 0) : ¬ yySome W n = true := by
  intro q
  obtain ⟨p, hp, w⟩ := yySome_iff.mp q
  have := yyT_le h hp
  omega
theorem yyQ_zero {B M : Nat → Int} {x : yySt} : ∀ {n : Nat}, (∀ k, k < n → M k = x.2.1 k) → yyQ B M x n = 0
  | 0, _ => rfl
  | n + 1, h => by
    show yyQ B M x n + (M n - x.2.1 n) * B n = 0
    rw [yyQ_zero (n := n) (fun k hk => h k (by omega)), h n (by omega), Int.sub_self, Int.zero_mul]
    rfl
theorem yyQ_le {B M : Nat → Int} {x : yySt} : ∀ {n : Nat}, (∀ k, k < n → 0 ≤ B k ∧ B k ≤ 60) → (∀ k, k < n → 0 ≤ M k - x.2.1 k ∧ M k - x.2.1 k ≤ 3) → yyQ B M x n ≤ 180 * n
  | 0, _, _ => Int.le_refl _
  | n + 1, h1, h2 => by
    have ih := yyQ_le (B := B) (M := M) (x := x) (n := n) (fun k hk => h1 k (by omega)) (fun k hk => h2 k (by omega))
    have b := h1 n (by omega)
    have m := h2 n (by omega)
    have p : (M n - x.2.1 n) * B n ≤ 3 * 60 := Int.mul_le_mul m.2 b.2 b.1 (by decide)
    show yyQ B M x n + (M n - x.2.1 n) * B n ≤ 180 * ((n + 1 : Nat) : Int)
    omega
def mdCx : aM := [(75, some 11), (75, some 12), (78, none), (79, none), (80, none), (81, none), (82, none)]
def mdCh : aM := [(75, some 11), (75, some 12), (81, none), (82, none)]
theorem inm_hx {q k : Nat} (h : inm mdCx q k = false) : inm mdCh q k = false := by
  unfold inm at h ⊢
  rw [List.any_eq_false] at h ⊢
  intro e he
  refine h e ?_
  rcases List.mem_cons.mp he with rfl | he
  · exact List.mem_of_getElem? (i := 0) rfl
  rcases List.mem_cons.mp he with rfl | he
  · exact List.mem_of_getElem? (i := 1) rfl
  rcases List.mem_cons.mp he with rfl | he
  · exact List.mem_of_getElem? (i := 5) rfl
  rcases List.mem_singleton.mp he with rfl
  exact List.mem_of_getElem? (i := 6) rfl
def vxC (J I : Nat → Nat → Int32) (dd : Int) (a : Nat) : yySt := (fun p => (I 78 p).toInt, fun k => if k < a then vMx dd (vRow J 56 76 k) - (I 79 k).toInt else 0, fun _ => false)
def bsC (I : Nat → Nat → Int32) : Option (Int × List Int) := if (I 75 12).toInt = -1 then none else some ((I 75 12).toInt, rwL I 82 (I 75 11).toInt.toNat)
theorem bsC_congr {I J : Nat → Nat → Int32} (h1 : I 75 12 = J 75 12) (h2 : I 75 11 = J 75 11) (h3 : ∀ k, I 82 k = J 82 k) : bsC I = bsC J := by
  unfold bsC
  rw [h1, h2, rwL_congr (I := I) (J := J) (q := 82) (q' := 82) (fun k _ => h3 k)]
theorem bsC_stay {I : Nat → Nat → Int32} {E b : Int} {l pre : List Int} (h : b + E ≤ (I 75 12).toInt) (h0 : 0 ≤ b + E) : upY E l b pre (bsC I) = bsC I := by
  unfold bsC
  rw [if_neg (by omega)]
  exact upY_stay h
theorem bsC_put {I : Nat → Nat → Int32} {b : Int} {pre : List Int} (h : (I 75 12).toInt < b) : upY 0 [] b pre (bsC I) = some (b, pre) := by
  have e1 : b + 0 = b := Int.add_zero b
  have e2 : pre ++ [] = pre := List.append_nil pre
  unfold bsC
  by_cases c : (I 75 12).toInt = -1
  · rw [if_pos c, upY_none (by omega), e1, e2]
  · rw [if_neg c, upY_put (by omega) (by dsimp only; omega), e1, e2]
theorem elC_iff {J I : Nat → Nat → Int32} {dd : Int} {a k : Nat} (hk : k < a) : yyEl (vRow J 56 76) dd (vxC J I dd a) k = true ↔ 0 < (I 79 k).toInt := by
  have e : (vxC J I dd a).2.1 k = vMx dd (vRow J 56 76 k) - (I 79 k).toInt := if_pos hk
  have v := vMx_iff (d := dd) (p := vRow J 56 76 k) (c := vMx dd (vRow J 56 76 k) - (I 79 k).toInt) (by have := vRow_ge (J := J) (q := 56) (t := 76) (k := k); omega)
  constructor
  · intro h
    have h2 := (yyEl_of h).2
    rw [e] at h2
    have := v.mpr h2
    omega
  · intro h
    have h2 := v.mp (by omega)
    unfold yyEl
    rw [Bool.and_eq_true, Bool.and_eq_true, decide_eq_true_eq, decide_eq_true_eq, e]
    exact ⟨rfl, h2⟩
/-- what stays: ships and ports told, the ships' berths and passages -/
def stC (J : Nat → Nat → Int32) (ma mc : Int32) : Prop := (J 75 2 = ma ∧ J 75 3 = mc) ∧ (1 ≤ ma.toInt ∧ ma.toInt ≤ 3) ∧ (1 ≤ mc.toInt ∧ mc.toInt ≤ 3) ∧ ∀ k : Nat, (k : Int) < ma.toInt → (0 ≤ (J 76 k).toInt ∧ (J 76 k).toInt < (J 53 3).toInt ∧ (J 53 3).toInt ≤ 16) ∧ (1 ≤ (J 55 (J 76 k).toNatClampNeg).toInt ∧ (J 55 (J 76 k).toNatClampNeg).toInt ≤ 60) ∧ (1 ≤ (J 56 (J 76 k).toNatClampNeg).toInt ∧ (J 56 (J 76 k).toNatClampNeg).toInt ≤ 30)
/-- what goes along: voyages left, days, men who wait, berths left -/
def dyC (J I : Nat → Nat → Int32) (ma mc : Int32) (dd : Int) (made home men berths : Int32) : Prop := (∀ k : Nat, (k : Int) < ma.toInt → (0 ≤ (I 79 k).toInt ∧ (I 79 k).toInt ≤ vMx dd (vRow J 56 76 k)) ∧ (I 80 k).toInt = 2 * vRow J 56 76 k * (vMx dd (vRow J 56 76 k) - (I 79 k).toInt)) ∧ (∀ p : Nat, (p : Int) < mc.toInt → 0 ≤ (I 78 p).toInt) ∧ (0 ≤ made.toInt ∧ made.toInt + yyNu (vxC J I dd ma.toInt.toNat) ma.toInt.toNat ≤ 9) ∧ (0 ≤ home.toInt ∧ home.toInt ≤ 60 * made.toInt) ∧ (men.toInt = yyT (vxC J I dd ma.toInt.toNat).1 mc.toInt.toNat ∧ men.toInt ≤ 3000) ∧ berths.toInt = yyQ (vRow J 55 76) (fun k => vMx dd (vRow J 56 76 k)) (vxC J I dd ma.toInt.toNat) ma.toInt.toNat
theorem dyC_c {J I : Nat → Nat → Int32} {ma mc : Int32} {dd : Int} (hd : 0 ≤ dd) {made home men berths : Int32} (h : dyC J I ma mc dd made home men berths) : ∀ k, 0 ≤ (vxC J I dd ma.toInt.toNat).2.1 k ∧ (vxC J I dd ma.toInt.toNat).2.1 k ≤ 3 ∧ (k < ma.toInt.toNat → (vxC J I dd ma.toInt.toNat).2.1 k ≤ vMx dd (vRow J 56 76 k)) := by
  intro k
  by_cases c : k < ma.toInt.toNat
  · have e : (vxC J I dd ma.toInt.toNat).2.1 k = vMx dd (vRow J 56 76 k) - (I 79 k).toInt := if_pos c
    have v := vMx_rng (d := dd) (p := vRow J 56 76 k) hd (by have := vRow_ge (J := J) (q := 56) (t := 76) (k := k); omega)
    have := (h.1 k (by omega)).1
    rw [e]
    exact ⟨by omega, by omega, fun _ => by omega⟩
  · have e : (vxC J I dd ma.toInt.toNat).2.1 k = 0 := if_neg c
    rw [e]
    exact ⟨by omega, by omega, fun q => absurd q c⟩
theorem dyC_w {J I : Nat → Nat → Int32} {ma mc : Int32} {dd : Int} {made home men berths : Int32} (h : dyC J I ma mc dd made home men berths) : ∀ p, p < mc.toInt.toNat → 0 ≤ (vxC J I dd ma.toInt.toNat).1 p := fun p hp => h.2.1 p (by omega)
theorem dyC_go {J I I2 : Nat → Nat → Int32} {ma mc : Int32} {dd : Int} (hd : 0 ≤ dd) {made home men berths made' home' men' berths' : Int32} {s t : Nat} {go : Int} (hS : stC J ma mc) (h : dyC J I ma mc dd made home men berths) (hs : yyChs ma.toInt.toNat mc.toInt.toNat (vRow J 56 76) dd (vxC J I dd ma.toInt.toNat) = some s) (ht : (t : Int) < mc.toInt) (hg : go = yyBy (vRow J 55 76) (vxC J I dd ma.toInt.toNat) s t) (hw : 0 < (I 78 t).toInt) (e79 : (I2 79 s).toInt = (I 79 s).toInt - 1) (k79 : ∀ k, ¬ k = s → I2 79 k = I 79 k) (e80 : (I2 80 s).toInt = (I 80 s).toInt + 2 * vRow J 56 76 s) (k80 : ∀ k, ¬ k = s → I2 80 k = I 80 k) (e78 : (I2 78 t).toInt = (I 78 t).toInt - go) (k78 : ∀ k, ¬ k = t → I2 78 k = I 78 k) (em : made'.toInt = made.toInt + 1) (eh : home'.toInt = home.toInt + go) (en : men'.toInt = men.toInt - go) (eb : berths'.toInt = berths.toInt - vRow J 55 76 s) : vxC J I2 dd ma.toInt.toNat = yyGo (vxC J I dd ma.toInt.toNat) s t go ∧ dyC J I2 ma mc dd made' home' men' berths' := by
  obtain ⟨q1, q2, -⟩ := yyChs_some hs
  obtain ⟨q3, q4, -⟩ := yyEl_of q2
  have lp := (elC_iff q1).mp q2
  have ex : vxC J I2 dd ma.toInt.toNat = yyGo (vxC J I dd ma.toInt.toNat) s t go := by
    refine Prod.ext (funext fun i => ?_) (Prod.ext (funext fun i => ?_) rfl)
    · show (I2 78 i).toInt = (if i = t then (I 78 i).toInt - go else (I 78 i).toInt)
      by_cases c : i = t
      · rw [if_pos c, c, e78]
      · rw [if_neg c, k78 i c]
    · show (if i < ma.toInt.toNat then vMx dd (vRow J 56 76 i) - (I2 79 i).toInt else 0) = (if i = s then (if i < ma.toInt.toNat then vMx dd (vRow J 56 76 i) - (I 79 i).toInt else 0) + 1 else (if i < ma.toInt.toNat then vMx dd (vRow J 56 76 i) - (I 79 i).toInt else 0))
      by_cases c : i = s
      · rw [if_pos c, if_pos (by omega), if_pos (by omega), c, e79]
        omega
      · rw [if_neg c, k79 i c]
  have bs := hS.2.2.2 s (by omega)
  have eB : vRow J 55 76 s = (J 55 (J 76 s).toNatClampNeg).toInt := vRow_of bs.2.1.1
  have by1 := yyBy_rng (B := vRow J 55 76) (x := vxC J I dd ma.toInt.toNat) (s := s) (p := t) vRow_ge hw
  have by3 : yyBy (vRow J 55 76) (vxC J I dd ma.toInt.toNat) s t ≤ vRow J 55 76 s := by
    unfold yyBy
    split <;> omega
  rw [← hg] at by1 by3
  have by2 : go ≤ (I 78 t).toInt := by1.2
  have h3 := h.2.2.1
  have h4 := h.2.2.2.1
  have h5 := h.2.2.2.2.1
  refine ⟨ex, fun k hk => ?_, fun p hp => ?_, ⟨by omega, ?_⟩, ⟨by omega, by omega⟩, ⟨?_, by omega⟩, ?_⟩
  · have hk1 := h.1 k hk
    by_cases c : k = s
    · rw [c] at hk1 ⊢
      have e1 : vMx dd (vRow J 56 76 s) - ((I 79 s).toInt - 1) = (vMx dd (vRow J 56 76 s) - (I 79 s).toInt) + 1 := by omega
      rw [e79, e80, e1, Int.mul_add, Int.mul_one, hk1.2]
      exact ⟨by omega, rfl⟩
    · rw [k79 k c, k80 k c]
      exact hk1
  · have hp1 := h.2.1 p hp
    by_cases c : p = t
    · rw [c, e78]
      omega
    · rw [k78 p c]
      exact hp1
  · have := yyNu_go (p := t) (y := go) q3 q1
    rw [ex]
    have := h.2.2.1.2
    omega
  · rw [ex]
    have e : yyT (yyGo (vxC J I dd ma.toInt.toNat) s t go).1 mc.toInt.toNat = yyT (vxC J I dd ma.toInt.toNat).1 mc.toInt.toNat - go := yyT_go (by omega)
    rw [e, en, h.2.2.2.2.1.1]
  · rw [ex, yyQ_go q1, eb, h.2.2.2.2.2]
/-- what choose leaves behind: all as it was, but for the best so far -/
def QCh (sh : List mE) (R : Nat → Nat → Option Nat) (J : Nat → Nat → Int32) (dd : Int) (a c : Nat) (I : Nat → Nat → Int32) (made home : Int32) (r : Option Value) (w' : mW) : Prop := r = none ∧ fresh w' ∧ wOK (mkT vV []) (wE sh R) w' ∧ (∀ q k, inm mdCh q k = false → w'.2.1 q k = I q k) ∧ (∀ k, k < made.toInt.toNat → w'.2.1 81 k = I 81 k) ∧ bsC w'.2.1 = upY (yyW a c (vRow J 55 76) (vRow J 56 76) dd (vxC J I dd a)) (yyL a c (vRow J 55 76) (vRow J 56 76) dd (vxC J I dd a)) home.toInt (rwL I 81 made.toInt.toNat) (bsC I)
theorem first_lp {d : Nat} {sh : List mE} {I : Nat → Nat → Int32} {L : Nat → Nat → Int64} {R : Nat → Nat → Option Nat} {ma : Int32} {el : Nat → Bool} {F : Nat → Int} (hw : wOK (mkT vV []) (wE sh R) (sh, I, L, R)) (em : I 75 2 = ma) (ha : 0 ≤ ma.toInt ∧ ma.toInt ≤ 3) (hel : ∀ k : Nat, (k : Int) < ma.toInt → (el k = true ↔ 0 < (I 79 k).toInt)) (hF : ∀ k : Nat, (k : Int) < ma.toInt → F k = (I 80 k).toInt) : ∀ (z : Nat) (t f : Int32), 0 ≤ t.toInt → t.toInt ≤ ma.toInt → ma.toInt - t.toInt < z → chO f (yyCh el F t.toInt.toNat) → XW 187 mr_187 none d 0 0 (fun r w' => (∃ y : Int32, r = some (.int y) ∧ chO y (yyCh el F ma.toInt.toNat)) ∧ w' = (sh, I, L, R)) (4, [(2, .int t), (1, .int f), (0, .ref 75)], [], (sh, I, L, R)) := by
  have c75 : sh[75]? = some (.inr 9) := hw.1 75 _ rfl
  have c79 : sh[79]? = some (.inl (.int, 3)) := hw.1 79 _ rfl
  have c80 : sh[80]? = some (.inl (.int, 3)) := hw.1 80 _ rfl
  have r75_7 : R 75 7 = some 79 := hw.2.1 75 7 _ rfl
  have r75_8 : R 75 8 = some 80 := hw.2.1 75 8 _ rfl
  have z0 : (0 : Int32).toInt = 0 := rfl
  intro z
  induction z with
  | zero =>
    intro t f h1 h2 hz hc
    exfalso
    omega
  | succ z ih =>
    intro t f h1 h2 hz hc
    have hcl := chO_lt hc
    refine XW.fam (S' := (5, [(2, .int t), (1, .int f), (0, .ref 75)], [.int t], (sh, I, L, R))) (M := mr_187) rfl (show mcode 187 4 = some (4, .iload_n 2, 1, 0, 0, 0, _) from rfl) (Or.inl ⟨.int t, rfl, rfl⟩) ?_
    refine XW.fam (S' := (6, [(2, .int t), (1, .int f), (0, .ref 75)], [.ref 75, .int t], (sh, I, L, R))) (M := mr_187) rfl (show mcode 187 5 = some (5, .aload_n 0, 1, 0, 0, 0, _) from rfl) (Or.inl ⟨.ref 75, rfl, rfl⟩) ?_
    refine XW.fam (S' := (9, [(2, .int t), (1, .int f), (0, .ref 75)], [.int (I 75 2), .int t], (sh, I, L, R))) (M := mr_187) rfl (show mcode 187 6 = some (6, .getfield 60, 3, 9, 2, 0, _) from rfl) (Or.inr (Or.inr (Or.inr (Or.inr (Or.inr (Or.inr (Or.inr (Or.inl ⟨_, _, rfl, fl_ldI c75 (by decide) (by decide), rfl⟩)))))))) ?_
    rw [em]
    cases k1 : bcmp .ge t ma with
    | true =>
      have gk1 : (ma).toInt ≤ (t).toInt := icT (c := .ge) (a := (t).toInt) (b := (ma).toInt) rfl rfl k1
      refine XW.fam (S' := (48, [(2, .int t), (1, .int f), (0, .ref 75)], [], (sh, I, L, R))) (M := mr_187) rfl (show mcode 187 9 = some (9, .if_icmp .ge 39, 3, 48, 0, 0, _) from rfl) (Or.inr (Or.inl ⟨48, [], by simp [brn, k1], rfl⟩)) ?_
      refine XW.fam (S' := (49, [(2, .int t), (1, .int f), (0, .ref 75)], [.int f], (sh, I, L, R))) (M := mr_187) rfl (show mcode 187 48 = some (48, .iload_n 1, 1, 0, 0, 0, _) from rfl) (Or.inl ⟨.int f, rfl, rfl⟩) ?_
      refine XW.ret (r := some (.int f)) ⟨⟨.int, rfl, rfl⟩, by decide +kernel⟩ ?_
      have et : t.toInt.toNat = ma.toInt.toNat := by omega
      rw [et] at hc
      exact ⟨⟨f, rfl, hc⟩, rfl⟩
    | false =>
      have gk1 : ¬ ((ma).toInt ≤ (t).toInt) := icF (c := .ge) (a := (t).toInt) (b := (ma).toInt) rfl rfl k1
      refine XW.fam (S' := (12, [(2, .int t), (1, .int f), (0, .ref 75)], [], (sh, I, L, R))) (M := mr_187) rfl (show mcode 187 9 = some (9, .if_icmp .ge 39, 3, 48, 0, 0, _) from rfl) (Or.inr (Or.inl ⟨12, [], by simp [brn, k1], rfl⟩)) ?_
      refine XW.fam (S' := (13, [(2, .int t), (1, .int f), (0, .ref 75)], [.ref 75], (sh, I, L, R))) (M := mr_187) rfl (show mcode 187 12 = some (12, .aload_n 0, 1, 0, 0, 0, _) from rfl) (Or.inl ⟨.ref 75, rfl, rfl⟩) ?_
      refine XW.fam (S' := (16, [(2, .int t), (1, .int f), (0, .ref 75)], [.ref 79], (sh, I, L, R))) (M := mr_187) rfl (show mcode 187 13 = some (13, .getfield 21, 3, 9, 7, 0, _) from rfl) (Or.inr (Or.inr (Or.inr (Or.inr (Or.inr (Or.inr (Or.inr (Or.inl ⟨_, _, rfl, fl_ld c75 r75_7 (by decide) (by decide), rfl⟩)))))))) ?_
      refine XW.fam (S' := (17, [(2, .int t), (1, .int f), (0, .ref 75)], [.int t, .ref 79], (sh, I, L, R))) (M := mr_187) rfl (show mcode 187 16 = some (16, .iload_n 2, 1, 0, 0, 0, _) from rfl) (Or.inl ⟨.int t, rfl, rfl⟩) ?_
      have hin2 : inR t 3 = true := inR_of (by omega) (by omega)
      refine XW.fam (S' := (18, [(2, .int t), (1, .int f), (0, .ref 75)], [.int (I 79 (t).toNatClampNeg)], (sh, I, L, R))) (M := mr_187) rfl (show mcode 187 17 = some (17, .iaload, 1, 0, 0, 0, _) from rfl) (Or.inr (Or.inr (Or.inl ⟨_, lda_i c79 hin2, rfl⟩))) ?_
      cases k3 : bcmp .le (I 79 (t).toNatClampNeg) 0 with
      | true =>
        have gk3 : ((I 79 (t).toNatClampNeg)).toInt ≤ 0 := icT (c := .le) (a := ((I 79 (t).toNatClampNeg)).toInt) (b := 0) rfl (by decide) k3
        refine XW.fam (S' := (42, [(2, .int t), (1, .int f), (0, .ref 75)], [], (sh, I, L, R))) (M := mr_187) rfl (show mcode 187 18 = some (18, .ifCond .le 24, 3, 42, 0, 0, _) from rfl) (Or.inr (Or.inl ⟨42, [], by simp [brn, k3], rfl⟩)) ?_
        refine XW.fam (S' := (45, [(2, .int (t + Int32.ofInt 1)), (1, .int f), (0, .ref 75)], [], (sh, I, L, R))) (M := mr_187) rfl (show mcode 187 42 = some (42, .iinc 2 1, 3, 0, 0, 0, _) from rfl) (Or.inr (Or.inr (Or.inr (Or.inr (Or.inr (Or.inr (Or.inr (Or.inr (Or.inr ⟨2, 1, t, rfl, rfl, by decide, rfl⟩))))))))) ?_
        refine XW.fam (S' := (4, [(2, .int (t + Int32.ofInt 1)), (1, .int f), (0, .ref 75)], [], (sh, I, L, R))) (M := mr_187) rfl (show mcode 187 45 = some (45, .goto (-41), 3, 4, 0, 0, _) from rfl) (Or.inr (Or.inl ⟨4, [], rfl, rfl⟩)) ?_
        have tn : (t).toNatClampNeg = t.toInt.toNat := rfl
        have fn : (f).toNatClampNeg = f.toInt.toNat := rfl
        have h79 := hel (t).toNatClampNeg (by omega)
        have f1 := hF (t).toNatClampNeg (by omega)
        have f2 := hF (f).toNatClampNeg (by omega)
        have eo := incO (m := t) (by omega) (by omega)
        have en : (t + Int32.ofInt 1).toInt.toNat = t.toInt.toNat + 1 := by omega
        refine XW.sub (ls' := [(2, .int (t + Int32.ofInt 1)), (1, .int f), (0, .ref 75)]) (List.forall_mem_cons.mpr ⟨List.mem_of_getElem? (i := 0) rfl, (List.forall_mem_cons.mpr ⟨List.mem_of_getElem? (i := 1) rfl, (List.forall_mem_cons.mpr ⟨List.mem_of_getElem? (i := 2) rfl, (fun _ h => absurd h List.not_mem_nil)⟩)⟩)⟩) ?_
        refine ih (t + Int32.ofInt 1) f (by omega) (by omega) (by omega) ?_
        rw [en]
        first
          | exact chO_skip hc (fun q => by have q1 := h79.mp q; omega)
          | exact chO_keep hc (by omega) (by show ¬ F (t).toNatClampNeg < F (f).toNatClampNeg; omega)
      | false =>
        have gk3 : ¬ (((I 79 (t).toNatClampNeg)).toInt ≤ 0) := icF (c := .le) (a := ((I 79 (t).toNatClampNeg)).toInt) (b := 0) rfl (by decide) k3
        refine XW.fam (S' := (21, [(2, .int t), (1, .int f), (0, .ref 75)], [], (sh, I, L, R))) (M := mr_187) rfl (show mcode 187 18 = some (18, .ifCond .le 24, 3, 42, 0, 0, _) from rfl) (Or.inr (Or.inl ⟨21, [], by simp [brn, k3], rfl⟩)) ?_
        refine XW.fam (S' := (22, [(2, .int t), (1, .int f), (0, .ref 75)], [.int f], (sh, I, L, R))) (M := mr_187) rfl (show mcode 187 21 = some (21, .iload_n 1, 1, 0, 0, 0, _) from rfl) (Or.inl ⟨.int f, rfl, rfl⟩) ?_
        cases k4 : bcmp .lt f 0 with
        | true =>
          have gk4 : (f).toInt < 0 := icT (c := .lt) (a := (f).toInt) (b := 0) rfl (by decide) k4
          refine XW.fam (S' := (40, [(2, .int t), (1, .int f), (0, .ref 75)], [], (sh, I, L, R))) (M := mr_187) rfl (show mcode 187 22 = some (22, .ifCond .lt 18, 3, 40, 0, 0, _) from rfl) (Or.inr (Or.inl ⟨40, [], by simp [brn, k4], rfl⟩)) ?_
          refine XW.fam (S' := (41, [(2, .int t), (1, .int f), (0, .ref 75)], [.int t], (sh, I, L, R))) (M := mr_187) rfl (show mcode 187 40 = some (40, .iload_n 2, 1, 0, 0, 0, _) from rfl) (Or.inl ⟨.int t, rfl, rfl⟩) ?_
          refine XW.fam (S' := (42, [(1, .int t), (2, .int t), (0, .ref 75)], [], (sh, I, L, R))) (M := mr_187) rfl (show mcode 187 41 = some (41, .istore_n 1, 1, 0, 0, 0, _) from rfl) (Or.inr (Or.inr (Or.inr (Or.inr (Or.inr (Or.inr (Or.inl ⟨_, [], _, rfl, rfl, rfl⟩))))))) ?_
          refine XW.fam (S' := (45, [(2, .int (t + Int32.ofInt 1)), (1, .int t), (0, .ref 75)], [], (sh, I, L, R))) (M := mr_187) rfl (show mcode 187 42 = some (42, .iinc 2 1, 3, 0, 0, 0, _) from rfl) (Or.inr (Or.inr (Or.inr (Or.inr (Or.inr (Or.inr (Or.inr (Or.inr (Or.inr ⟨2, 1, t, rfl, rfl, by decide, rfl⟩))))))))) ?_
          refine XW.fam (S' := (4, [(2, .int (t + Int32.ofInt 1)), (1, .int t), (0, .ref 75)], [], (sh, I, L, R))) (M := mr_187) rfl (show mcode 187 45 = some (45, .goto (-41), 3, 4, 0, 0, _) from rfl) (Or.inr (Or.inl ⟨4, [], rfl, rfl⟩)) ?_
          have tn : (t).toNatClampNeg = t.toInt.toNat := rfl
          have fn : (f).toNatClampNeg = f.toInt.toNat := rfl
          have h79 := hel (t).toNatClampNeg (by omega)
          have f1 := hF (t).toNatClampNeg (by omega)
          have f2 := hF (f).toNatClampNeg (by omega)
          have eo := incO (m := t) (by omega) (by omega)
          have en : (t + Int32.ofInt 1).toInt.toNat = t.toInt.toNat + 1 := by omega
          refine XW.sub (ls' := [(2, .int (t + Int32.ofInt 1)), (1, .int t), (0, .ref 75)]) (List.forall_mem_cons.mpr ⟨List.mem_of_getElem? (i := 0) rfl, (List.forall_mem_cons.mpr ⟨List.mem_of_getElem? (i := 1) rfl, (List.forall_mem_cons.mpr ⟨List.mem_of_getElem? (i := 2) rfl, (fun _ h => absurd h List.not_mem_nil)⟩)⟩)⟩) ?_
          refine ih (t + Int32.ofInt 1) t (by omega) (by omega) (by omega) ?_
          rw [en]
          first
            | exact chO_new hc (h79.mpr (by omega)) (by omega) (by omega)
            | exact chO_less hc (h79.mpr (by omega)) (by omega) (by show F (t).toNatClampNeg < F (f).toNatClampNeg; omega) (by omega)
        | false =>
          have gk4 : ¬ ((f).toInt < 0) := icF (c := .lt) (a := (f).toInt) (b := 0) rfl (by decide) k4
          refine XW.fam (S' := (25, [(2, .int t), (1, .int f), (0, .ref 75)], [], (sh, I, L, R))) (M := mr_187) rfl (show mcode 187 22 = some (22, .ifCond .lt 18, 3, 40, 0, 0, _) from rfl) (Or.inr (Or.inl ⟨25, [], by simp [brn, k4], rfl⟩)) ?_
          refine XW.fam (S' := (26, [(2, .int t), (1, .int f), (0, .ref 75)], [.ref 75], (sh, I, L, R))) (M := mr_187) rfl (show mcode 187 25 = some (25, .aload_n 0, 1, 0, 0, 0, _) from rfl) (Or.inl ⟨.ref 75, rfl, rfl⟩) ?_
          refine XW.fam (S' := (29, [(2, .int t), (1, .int f), (0, .ref 75)], [.ref 80], (sh, I, L, R))) (M := mr_187) rfl (show mcode 187 26 = some (26, .getfield 24, 3, 9, 8, 0, _) from rfl) (Or.inr (Or.inr (Or.inr (Or.inr (Or.inr (Or.inr (Or.inr (Or.inl ⟨_, _, rfl, fl_ld c75 r75_8 (by decide) (by decide), rfl⟩)))))))) ?_
          refine XW.fam (S' := (30, [(2, .int t), (1, .int f), (0, .ref 75)], [.int t, .ref 80], (sh, I, L, R))) (M := mr_187) rfl (show mcode 187 29 = some (29, .iload_n 2, 1, 0, 0, 0, _) from rfl) (Or.inl ⟨.int t, rfl, rfl⟩) ?_
          have hin5 : inR t 3 = true := inR_of (by omega) (by omega)
          refine XW.fam (S' := (31, [(2, .int t), (1, .int f), (0, .ref 75)], [.int (I 80 (t).toNatClampNeg)], (sh, I, L, R))) (M := mr_187) rfl (show mcode 187 30 = some (30, .iaload, 1, 0, 0, 0, _) from rfl) (Or.inr (Or.inr (Or.inl ⟨_, lda_i c80 hin5, rfl⟩))) ?_
          refine XW.fam (S' := (32, [(2, .int t), (1, .int f), (0, .ref 75)], [.ref 75, .int (I 80 (t).toNatClampNeg)], (sh, I, L, R))) (M := mr_187) rfl (show mcode 187 31 = some (31, .aload_n 0, 1, 0, 0, 0, _) from rfl) (Or.inl ⟨.ref 75, rfl, rfl⟩) ?_
          refine XW.fam (S' := (35, [(2, .int t), (1, .int f), (0, .ref 75)], [.ref 80, .int (I 80 (t).toNatClampNeg)], (sh, I, L, R))) (M := mr_187) rfl (show mcode 187 32 = some (32, .getfield 24, 3, 9, 8, 0, _) from rfl) (Or.inr (Or.inr (Or.inr (Or.inr (Or.inr (Or.inr (Or.inr (Or.inl ⟨_, _, rfl, fl_ld c75 r75_8 (by decide) (by decide), rfl⟩)))))))) ?_
          refine XW.fam (S' := (36, [(2, .int t), (1, .int f), (0, .ref 75)], [.int f, .ref 80, .int (I 80 (t).toNatClampNeg)], (sh, I, L, R))) (M := mr_187) rfl (show mcode 187 35 = some (35, .iload_n 1, 1, 0, 0, 0, _) from rfl) (Or.inl ⟨.int f, rfl, rfl⟩) ?_
          have hin6 : inR f 3 = true := inR_of (by omega) (by omega)
          refine XW.fam (S' := (37, [(2, .int t), (1, .int f), (0, .ref 75)], [.int (I 80 (f).toNatClampNeg), .int (I 80 (t).toNatClampNeg)], (sh, I, L, R))) (M := mr_187) rfl (show mcode 187 36 = some (36, .iaload, 1, 0, 0, 0, _) from rfl) (Or.inr (Or.inr (Or.inl ⟨_, lda_i c80 hin6, rfl⟩))) ?_
          cases k7 : bcmp .ge (I 80 (t).toNatClampNeg) (I 80 (f).toNatClampNeg) with
          | true =>
            have gk7 : ((I 80 (f).toNatClampNeg)).toInt ≤ ((I 80 (t).toNatClampNeg)).toInt := icT (c := .ge) (a := ((I 80 (t).toNatClampNeg)).toInt) (b := ((I 80 (f).toNatClampNeg)).toInt) rfl rfl k7
            refine XW.fam (S' := (42, [(2, .int t), (1, .int f), (0, .ref 75)], [], (sh, I, L, R))) (M := mr_187) rfl (show mcode 187 37 = some (37, .if_icmp .ge 5, 3, 42, 0, 0, _) from rfl) (Or.inr (Or.inl ⟨42, [], by simp [brn, k7], rfl⟩)) ?_
            refine XW.fam (S' := (45, [(2, .int (t + Int32.ofInt 1)), (1, .int f), (0, .ref 75)], [], (sh, I, L, R))) (M := mr_187) rfl (show mcode 187 42 = some (42, .iinc 2 1, 3, 0, 0, 0, _) from rfl) (Or.inr (Or.inr (Or.inr (Or.inr (Or.inr (Or.inr (Or.inr (Or.inr (Or.inr ⟨2, 1, t, rfl, rfl, by decide, rfl⟩))))))))) ?_
            refine XW.fam (S' := (4, [(2, .int (t + Int32.ofInt 1)), (1, .int f), (0, .ref 75)], [], (sh, I, L, R))) (M := mr_187) rfl (show mcode 187 45 = some (45, .goto (-41), 3, 4, 0, 0, _) from rfl) (Or.inr (Or.inl ⟨4, [], rfl, rfl⟩)) ?_
            have tn : (t).toNatClampNeg = t.toInt.toNat := rfl
            have fn : (f).toNatClampNeg = f.toInt.toNat := rfl
            have h79 := hel (t).toNatClampNeg (by omega)
            have f1 := hF (t).toNatClampNeg (by omega)
            have f2 := hF (f).toNatClampNeg (by omega)
            have eo := incO (m := t) (by omega) (by omega)
            have en : (t + Int32.ofInt 1).toInt.toNat = t.toInt.toNat + 1 := by omega
            refine XW.sub (ls' := [(2, .int (t + Int32.ofInt 1)), (1, .int f), (0, .ref 75)]) (List.forall_mem_cons.mpr ⟨List.mem_of_getElem? (i := 0) rfl, (List.forall_mem_cons.mpr ⟨List.mem_of_getElem? (i := 1) rfl, (List.forall_mem_cons.mpr ⟨List.mem_of_getElem? (i := 2) rfl, (fun _ h => absurd h List.not_mem_nil)⟩)⟩)⟩) ?_
            refine ih (t + Int32.ofInt 1) f (by omega) (by omega) (by omega) ?_
            rw [en]
            first
              | exact chO_skip hc (fun q => by have q1 := h79.mp q; omega)
              | exact chO_keep hc (by omega) (by show ¬ F (t).toNatClampNeg < F (f).toNatClampNeg; omega)
          | false =>
            have gk7 : ¬ (((I 80 (f).toNatClampNeg)).toInt ≤ ((I 80 (t).toNatClampNeg)).toInt) := icF (c := .ge) (a := ((I 80 (t).toNatClampNeg)).toInt) (b := ((I 80 (f).toNatClampNeg)).toInt) rfl rfl k7
            refine XW.fam (S' := (40, [(2, .int t), (1, .int f), (0, .ref 75)], [], (sh, I, L, R))) (M := mr_187) rfl (show mcode 187 37 = some (37, .if_icmp .ge 5, 3, 42, 0, 0, _) from rfl) (Or.inr (Or.inl ⟨40, [], by simp [brn, k7], rfl⟩)) ?_
            refine XW.fam (S' := (41, [(2, .int t), (1, .int f), (0, .ref 75)], [.int t], (sh, I, L, R))) (M := mr_187) rfl (show mcode 187 40 = some (40, .iload_n 2, 1, 0, 0, 0, _) from rfl) (Or.inl ⟨.int t, rfl, rfl⟩) ?_
            refine XW.fam (S' := (42, [(1, .int t), (2, .int t), (0, .ref 75)], [], (sh, I, L, R))) (M := mr_187) rfl (show mcode 187 41 = some (41, .istore_n 1, 1, 0, 0, 0, _) from rfl) (Or.inr (Or.inr (Or.inr (Or.inr (Or.inr (Or.inr (Or.inl ⟨_, [], _, rfl, rfl, rfl⟩))))))) ?_
            refine XW.fam (S' := (45, [(2, .int (t + Int32.ofInt 1)), (1, .int t), (0, .ref 75)], [], (sh, I, L, R))) (M := mr_187) rfl (show mcode 187 42 = some (42, .iinc 2 1, 3, 0, 0, 0, _) from rfl) (Or.inr (Or.inr (Or.inr (Or.inr (Or.inr (Or.inr (Or.inr (Or.inr (Or.inr ⟨2, 1, t, rfl, rfl, by decide, rfl⟩))))))))) ?_
            refine XW.fam (S' := (4, [(2, .int (t + Int32.ofInt 1)), (1, .int t), (0, .ref 75)], [], (sh, I, L, R))) (M := mr_187) rfl (show mcode 187 45 = some (45, .goto (-41), 3, 4, 0, 0, _) from rfl) (Or.inr (Or.inl ⟨4, [], rfl, rfl⟩)) ?_
            have tn : (t).toNatClampNeg = t.toInt.toNat := rfl
            have fn : (f).toNatClampNeg = f.toInt.toNat := rfl
            have h79 := hel (t).toNatClampNeg (by omega)
            have f1 := hF (t).toNatClampNeg (by omega)
            have f2 := hF (f).toNatClampNeg (by omega)
            have eo := incO (m := t) (by omega) (by omega)
            have en : (t + Int32.ofInt 1).toInt.toNat = t.toInt.toNat + 1 := by omega
            refine XW.sub (ls' := [(2, .int (t + Int32.ofInt 1)), (1, .int t), (0, .ref 75)]) (List.forall_mem_cons.mpr ⟨List.mem_of_getElem? (i := 0) rfl, (List.forall_mem_cons.mpr ⟨List.mem_of_getElem? (i := 1) rfl, (List.forall_mem_cons.mpr ⟨List.mem_of_getElem? (i := 2) rfl, (fun _ h => absurd h List.not_mem_nil)⟩)⟩)⟩) ?_
            refine ih (t + Int32.ofInt 1) t (by omega) (by omega) (by omega) ?_
            rw [en]
            first
              | exact chO_new hc (h79.mpr (by omega)) (by omega) (by omega)
              | exact chO_less hc (h79.mpr (by omega)) (by omega) (by show F (t).toNatClampNeg < F (f).toNatClampNeg; omega) (by omega)
theorem tc_first {d : Nat} {sh : List mE} {I : Nat → Nat → Int32} {L : Nat → Nat → Int64} {R : Nat → Nat → Option Nat} {ma : Int32} {el : Nat → Bool} {F : Nat → Int} (hw : wOK (mkT vV []) (wE sh R) (sh, I, L, R)) (em : I 75 2 = ma) (ha : 0 ≤ ma.toInt ∧ ma.toInt ≤ 3) (hel : ∀ k : Nat, (k : Int) < ma.toInt → (el k = true ↔ 0 < (I 79 k).toInt)) (hF : ∀ k : Nat, (k : Int) < ma.toInt → F k = (I 80 k).toInt) : Tc 187 d 0 0 [.ref 75] (sh, I, L, R) (fun r w' => (∃ y : Int32, r = some (.int y) ∧ chO y (yyCh el F ma.toInt.toNat)) ∧ w' = (sh, I, L, R)) := by
  have zm1 : ((-1) : Int32).toInt = (-1) := rfl
  have z0 : (0 : Int32).toInt = 0 := rfl
  refine Tc.of mr_187 rfl (show 1 ≤ mr_187.2.2.2.1 by decide) ?_
  refine XW.fam (S' := (1, [(0, .ref 75)], [.int (-1)], (sh, I, L, R))) (M := mr_187) rfl (show mcode 187 0 = some (0, .iconst (-1), 1, 0, 0, 0, _) from rfl) (Or.inl ⟨.int (-1), rfl, rfl⟩) ?_
  refine XW.fam (S' := (2, [(1, .int (-1)), (0, .ref 75)], [], (sh, I, L, R))) (M := mr_187) rfl (show mcode 187 1 = some (1, .istore_n 1, 1, 0, 0, 0, _) from rfl) (Or.inr (Or.inr (Or.inr (Or.inr (Or.inr (Or.inr (Or.inl ⟨_, [], _, rfl, rfl, rfl⟩))))))) ?_
  refine XW.fam (S' := (3, [(1, .int (-1)), (0, .ref 75)], [.int 0], (sh, I, L, R))) (M := mr_187) rfl (show mcode 187 2 = some (2, .iconst 0, 1, 0, 0, 0, _) from rfl) (Or.inl ⟨.int 0, rfl, rfl⟩) ?_
  refine XW.fam (S' := (4, [(2, .int 0), (1, .int (-1)), (0, .ref 75)], [], (sh, I, L, R))) (M := mr_187) rfl (show mcode 187 3 = some (3, .istore_n 2, 1, 0, 0, 0, _) from rfl) (Or.inr (Or.inr (Or.inr (Or.inr (Or.inr (Or.inr (Or.inl ⟨_, [], _, rfl, rfl, rfl⟩))))))) ?_
  refine XW.sub (ls' := [(2, .int 0), (1, .int (-1)), (0, .ref 75)]) (List.forall_mem_cons.mpr ⟨List.mem_of_getElem? (i := 0) rfl, (List.forall_mem_cons.mpr ⟨List.mem_of_getElem? (i := 1) rfl, (List.forall_mem_cons.mpr ⟨List.mem_of_getElem? (i := 2) rfl, (fun _ h => absurd h List.not_mem_nil)⟩)⟩)⟩) ?_
  exact first_lp (d := d) hw em ha hel hF 4 0 (-1) (by decide) (by have z0 : (0 : Int32).toInt = 0 := rfl; omega) (by have z0 : (0 : Int32).toInt = 0 := rfl; omega) (Or.inl ⟨rfl, rfl⟩)
theorem tc_bo {d : Nat} {sh : List mE} {I : Nat → Nat → Int32} {L : Nat → Nat → Int64} {R : Nat → Nat → Option Nat} {p : Int32} (hw : wOK (mkT vV []) (wE sh R) (sh, I, L, R)) (hp : 0 ≤ p.toInt ∧ p.toInt < (I 53 3).toInt ∧ (I 53 3).toInt ≤ 16) : Tc 185 (d + 1) 0 0 [.ref 53, .int p] (sh, I, L, R) (fun r w' => r = some (.int (I 55 p.toNatClampNeg)) ∧ w' = (sh, I, L, R)) := by
  have c53 : sh[53]? = some (.inr 7) := hw.1 53 _ rfl
  have c55 : sh[55]? = some (.inl (.int, 16)) := hw.1 55 _ rfl
  have r53_5 : R 53 5 = some 55 := hw.2.1 53 5 _ rfl
  refine Tc.of mr_185 rfl (show 2 ≤ mr_185.2.2.2.1 by decide) ?_
  refine XW.fam (S' := (1, [(0, .ref 53), (1, .int p)], [.ref 53], (sh, I, L, R))) (M := mr_185) rfl (show mcode 185 0 = some (0, .aload_n 0, 1, 0, 0, 0, _) from rfl) (Or.inl ⟨.ref 53, rfl, rfl⟩) ?_
  refine XW.fam (S' := (2, [(0, .ref 53), (1, .int p)], [.int p, .ref 53], (sh, I, L, R))) (M := mr_185) rfl (show mcode 185 1 = some (1, .iload_n 1, 1, 0, 0, 0, _) from rfl) (Or.inl ⟨.int p, rfl, rfl⟩) ?_
  refine XW.call (d' := d) (mc' := 0) (ms' := 0) (av := [.ref 53, .int p]) (rest := []) (M := mr_185) (Ma := mr_62) rfl (show mcode 185 2 = some (2, .invokevirtual 65, 3, 62, 0, 0, _) from rfl) rfl (by decide) (by decide) ⟨rfl, 53, _, rfl, c53⟩ rfl rfl (show 0 ≤ 8 by decide) (tc_isShC (d := d) hw) (by omega) (Nat.zero_le _) (Nat.zero_le _) (fun rQ1 wQ1 Q1 => ?_)
  obtain ⟨hQ1, rfl⟩ := Q1
  rcases hQ1 with ⟨rfl, gQ1⟩ | ⟨rfl, gQ1⟩
  · exfalso
    omega
  refine XW.fam (S' := (8, [(0, .ref 53), (1, .int p)], [], (sh, I, L, R))) (M := mr_185) rfl (show mcode 185 5 = some (5, .ifCond .eq 12, 3, 17, 0, 0, _) from rfl) (Or.inr (Or.inl ⟨8, [], rfl, rfl⟩)) ?_
  refine XW.fam (S' := (9, [(0, .ref 53), (1, .int p)], [.ref 53], (sh, I, L, R))) (M := mr_185) rfl (show mcode 185 8 = some (8, .aload_n 0, 1, 0, 0, 0, _) from rfl) (Or.inl ⟨.ref 53, rfl, rfl⟩) ?_
  refine XW.fam (S' := (12, [(0, .ref 53), (1, .int p)], [.ref 55], (sh, I, L, R))) (M := mr_185) rfl (show mcode 185 9 = some (9, .getfield 15, 3, 7, 5, 0, _) from rfl) (Or.inr (Or.inr (Or.inr (Or.inr (Or.inr (Or.inr (Or.inr (Or.inl ⟨_, _, rfl, fl_ld c53 r53_5 (by decide) (by decide), rfl⟩)))))))) ?_
  refine XW.fam (S' := (13, [(0, .ref 53), (1, .int p)], [.int p, .ref 55], (sh, I, L, R))) (M := mr_185) rfl (show mcode 185 12 = some (12, .iload_n 1, 1, 0, 0, 0, _) from rfl) (Or.inl ⟨.int p, rfl, rfl⟩) ?_
  have hin2 : inR p 16 = true := inR_of (by omega) (by omega)
  refine XW.fam (S' := (14, [(0, .ref 53), (1, .int p)], [.int (I 55 (p).toNatClampNeg)], (sh, I, L, R))) (M := mr_185) rfl (show mcode 185 13 = some (13, .iaload, 1, 0, 0, 0, _) from rfl) (Or.inr (Or.inr (Or.inl ⟨_, lda_i c55 hin2, rfl⟩))) ?_
  refine XW.fam (S' := (18, [(0, .ref 53), (1, .int p)], [.int (I 55 (p).toNatClampNeg)], (sh, I, L, R))) (M := mr_185) rfl (show mcode 185 14 = some (14, .goto 4, 3, 18, 0, 0, _) from rfl) (Or.inr (Or.inl ⟨18, [.int (I 55 (p).toNatClampNeg)], rfl, rfl⟩)) ?_
  refine XW.ret (r := some (.int (I 55 (p).toNatClampNeg))) ⟨⟨.int, rfl, rfl⟩, by decide +kernel⟩ ?_
  exact ⟨rfl, rfl⟩
theorem tc_po {d : Nat} {sh : List mE} {I : Nat → Nat → Int32} {L : Nat → Nat → Int64} {R : Nat → Nat → Option Nat} {p : Int32} (hw : wOK (mkT vV []) (wE sh R) (sh, I, L, R)) (hp : 0 ≤ p.toInt ∧ p.toInt < (I 53 3).toInt ∧ (I 53 3).toInt ≤ 16) : Tc 184 (d + 1) 0 0 [.ref 53, .int p] (sh, I, L, R) (fun r w' => r = some (.int (I 56 p.toNatClampNeg)) ∧ w' = (sh, I, L, R)) := by
  have c53 : sh[53]? = some (.inr 7) := hw.1 53 _ rfl
  have c56 : sh[56]? = some (.inl (.int, 16)) := hw.1 56 _ rfl
  have r53_6 : R 53 6 = some 56 := hw.2.1 53 6 _ rfl
  refine Tc.of mr_184 rfl (show 2 ≤ mr_184.2.2.2.1 by decide) ?_
  refine XW.fam (S' := (1, [(0, .ref 53), (1, .int p)], [.ref 53], (sh, I, L, R))) (M := mr_184) rfl (show mcode 184 0 = some (0, .aload_n 0, 1, 0, 0, 0, _) from rfl) (Or.inl ⟨.ref 53, rfl, rfl⟩) ?_
  refine XW.fam (S' := (2, [(0, .ref 53), (1, .int p)], [.int p, .ref 53], (sh, I, L, R))) (M := mr_184) rfl (show mcode 184 1 = some (1, .iload_n 1, 1, 0, 0, 0, _) from rfl) (Or.inl ⟨.int p, rfl, rfl⟩) ?_
  refine XW.call (d' := d) (mc' := 0) (ms' := 0) (av := [.ref 53, .int p]) (rest := []) (M := mr_184) (Ma := mr_62) rfl (show mcode 184 2 = some (2, .invokevirtual 65, 3, 62, 0, 0, _) from rfl) rfl (by decide) (by decide) ⟨rfl, 53, _, rfl, c53⟩ rfl rfl (show 0 ≤ 8 by decide) (tc_isShC (d := d) hw) (by omega) (Nat.zero_le _) (Nat.zero_le _) (fun rQ1 wQ1 Q1 => ?_)
  obtain ⟨hQ1, rfl⟩ := Q1
  rcases hQ1 with ⟨rfl, gQ1⟩ | ⟨rfl, gQ1⟩
  · exfalso
    omega
  refine XW.fam (S' := (8, [(0, .ref 53), (1, .int p)], [], (sh, I, L, R))) (M := mr_184) rfl (show mcode 184 5 = some (5, .ifCond .eq 12, 3, 17, 0, 0, _) from rfl) (Or.inr (Or.inl ⟨8, [], rfl, rfl⟩)) ?_
  refine XW.fam (S' := (9, [(0, .ref 53), (1, .int p)], [.ref 53], (sh, I, L, R))) (M := mr_184) rfl (show mcode 184 8 = some (8, .aload_n 0, 1, 0, 0, 0, _) from rfl) (Or.inl ⟨.ref 53, rfl, rfl⟩) ?_
  refine XW.fam (S' := (12, [(0, .ref 53), (1, .int p)], [.ref 56], (sh, I, L, R))) (M := mr_184) rfl (show mcode 184 9 = some (9, .getfield 18, 3, 7, 6, 0, _) from rfl) (Or.inr (Or.inr (Or.inr (Or.inr (Or.inr (Or.inr (Or.inr (Or.inl ⟨_, _, rfl, fl_ld c53 r53_6 (by decide) (by decide), rfl⟩)))))))) ?_
  refine XW.fam (S' := (13, [(0, .ref 53), (1, .int p)], [.int p, .ref 56], (sh, I, L, R))) (M := mr_184) rfl (show mcode 184 12 = some (12, .iload_n 1, 1, 0, 0, 0, _) from rfl) (Or.inl ⟨.int p, rfl, rfl⟩) ?_
  have hin2 : inR p 16 = true := inR_of (by omega) (by omega)
  refine XW.fam (S' := (14, [(0, .ref 53), (1, .int p)], [.int (I 56 (p).toNatClampNeg)], (sh, I, L, R))) (M := mr_184) rfl (show mcode 184 13 = some (13, .iaload, 1, 0, 0, 0, _) from rfl) (Or.inr (Or.inr (Or.inl ⟨_, lda_i c56 hin2, rfl⟩))) ?_
  refine XW.fam (S' := (18, [(0, .ref 53), (1, .int p)], [.int (I 56 (p).toNatClampNeg)], (sh, I, L, R))) (M := mr_184) rfl (show mcode 184 14 = some (14, .goto 4, 3, 18, 0, 0, _) from rfl) (Or.inr (Or.inl ⟨18, [.int (I 56 (p).toNatClampNeg)], rfl, rfl⟩)) ?_
  refine XW.ret (r := some (.int (I 56 (p).toNatClampNeg))) ⟨⟨.int, rfl, rfl⟩, by decide +kernel⟩ ?_
  exact ⟨rfl, rfl⟩
theorem cho_leaf {d : Nat} {sh : List mE} {I : Nat → Nat → Int32} {L : Nat → Nat → Int64} {R : Nat → Nat → Option Nat} {J : Nat → Nat → Int32} {ma mc made home men berths y : Int32} {dd : Int} (hw : wOK (mkT vV []) (wE sh R) (sh, I, L, R)) (hf : fresh (sh, I, L, R)) (h9 : 0 ≤ made.toInt ∧ made.toInt ≤ 9) (hh : 0 ≤ home.toInt ∧ home.toInt ≤ 540) (hlt : (I 75 12).toInt < home.toInt) (hno : yyChs ma.toInt.toNat mc.toInt.toNat (vRow J 56 76) dd (vxC J I dd ma.toInt.toNat) = none) : XW 186 mr_186 none d 0 0 (QCh sh R J dd ma.toInt.toNat mc.toInt.toNat I made home) (37, [(5, .int y), (4, .int berths), (3, .int men), (2, .int home), (1, .int made), (0, .ref 75)], [], (sh, I, L, R)) := by
  have c75 : sh[75]? = some (.inr 9) := hw.1 75 _ rfl
  have c81 : sh[81]? = some (.inl (.int, 9)) := hw.1 81 _ rfl
  have c82 : sh[82]? = some (.inl (.int, 9)) := hw.1 82 _ rfl
  have r75_9 : R 75 9 = some 81 := hw.2.1 75 9 _ rfl
  have r75_10 : R 75 10 = some 82 := hw.2.1 75 10 _ rfl
  have z0 : (0 : Int32).toInt = 0 := rfl
  have z0 : (0 : Int32).toInt = 0 := rfl
  refine XW.fam (S' := (38, [(5, .int y), (4, .int berths), (3, .int men), (2, .int home), (1, .int made), (0, .ref 75)], [.ref 75], (sh, I, L, R))) (M := mr_186) rfl (show mcode 186 37 = some (37, .aload_n 0, 1, 0, 0, 0, _) from rfl) (Or.inl ⟨.ref 75, rfl, rfl⟩) ?_
  refine XW.fam (S' := (39, [(5, .int y), (4, .int berths), (3, .int men), (2, .int home), (1, .int made), (0, .ref 75)], [.int home, .ref 75], (sh, I, L, R))) (M := mr_186) rfl (show mcode 186 38 = some (38, .iload_n 2, 1, 0, 0, 0, _) from rfl) (Or.inl ⟨.int home, rfl, rfl⟩) ?_
  obtain ⟨I1, eI1⟩ : ∃ X, X = up2 I 75 12 home := ⟨_, rfl⟩
  refine XW.fam (S' := (42, [(5, .int y), (4, .int berths), (3, .int men), (2, .int home), (1, .int made), (0, .ref 75)], [], (sh, I1, L, R))) (M := mr_186) rfl (show mcode 186 39 = some (39, .putfield 89, 3, 9, 12, 0, _) from rfl) (Or.inr (Or.inr (Or.inr (Or.inr (Or.inr (Or.inr (Or.inr (Or.inr (Or.inl ⟨_, _, _, rfl, by rw [eI1]; exact stf_I c75 (by decide) (by decide) (by decide), rfl⟩))))))))) ?_
  have hwI1 : wOK (mkT vV []) (wE sh R) (sh, I1, L, R) := by rw [eI1]; exact wOK_u2 (q := 75) (k := 12) (x := home) wE_put hw rfl (by show ((-1) : Int) ≤ _; omega) (by show _ ≤ (540 : Int); omega)
  have hfI1 : fresh (sh, I1, L, R) := by rw [eI1]; exact fresh_I hf c75
  have v2 : I1 75 12 = home := by rw [eI1]; exact up2_eq
  refine XW.fam (S' := (43, [(5, .int y), (4, .int berths), (3, .int men), (2, .int home), (1, .int made), (0, .ref 75)], [.ref 75], (sh, I1, L, R))) (M := mr_186) rfl (show mcode 186 42 = some (42, .aload_n 0, 1, 0, 0, 0, _) from rfl) (Or.inl ⟨.ref 75, rfl, rfl⟩) ?_
  refine XW.fam (S' := (44, [(5, .int y), (4, .int berths), (3, .int men), (2, .int home), (1, .int made), (0, .ref 75)], [.int made, .ref 75], (sh, I1, L, R))) (M := mr_186) rfl (show mcode 186 43 = some (43, .iload_n 1, 1, 0, 0, 0, _) from rfl) (Or.inl ⟨.int made, rfl, rfl⟩) ?_
  obtain ⟨I3, eI3⟩ : ∃ X, X = up2 I1 75 11 made := ⟨_, rfl⟩
  refine XW.fam (S' := (47, [(5, .int y), (4, .int berths), (3, .int men), (2, .int home), (1, .int made), (0, .ref 75)], [], (sh, I3, L, R))) (M := mr_186) rfl (show mcode 186 44 = some (44, .putfield 92, 3, 9, 11, 0, _) from rfl) (Or.inr (Or.inr (Or.inr (Or.inr (Or.inr (Or.inr (Or.inr (Or.inr (Or.inl ⟨_, _, _, rfl, by rw [eI3]; exact stf_I c75 (by decide) (by decide) (by decide), rfl⟩))))))))) ?_
  have hwI3 : wOK (mkT vV []) (wE sh R) (sh, I3, L, R) := by rw [eI3]; exact wOK_u2 (q := 75) (k := 11) (x := made) wE_put hwI1 rfl (by show (0 : Int) ≤ _; omega) (by show _ ≤ (9 : Int); omega)
  have hfI3 : fresh (sh, I3, L, R) := by rw [eI3]; exact fresh_I hfI1 c75
  have v4 : I3 75 12 = home := by rw [eI3, up2_ne (fun e => by cases e.2)]; exact v2
  have v5 : I3 75 11 = made := by rw [eI3]; exact up2_eq
  refine XW.fam (S' := (48, [(5, .int y), (4, .int berths), (3, .int men), (2, .int home), (1, .int made), (0, .ref 75)], [.ref 75], (sh, I3, L, R))) (M := mr_186) rfl (show mcode 186 47 = some (47, .aload_n 0, 1, 0, 0, 0, _) from rfl) (Or.inl ⟨.ref 75, rfl, rfl⟩) ?_
  refine XW.fam (S' := (51, [(5, .int y), (4, .int berths), (3, .int men), (2, .int home), (1, .int made), (0, .ref 75)], [.ref 81], (sh, I3, L, R))) (M := mr_186) rfl (show mcode 186 48 = some (48, .getfield 27, 3, 9, 9, 0, _) from rfl) (Or.inr (Or.inr (Or.inr (Or.inr (Or.inr (Or.inr (Or.inr (Or.inl ⟨_, _, rfl, fl_ld c75 r75_9 (by decide) (by decide), rfl⟩)))))))) ?_
  refine XW.fam (S' := (52, [(5, .int y), (4, .int berths), (3, .int men), (2, .int home), (1, .int made), (0, .ref 75)], [.int 0, .ref 81], (sh, I3, L, R))) (M := mr_186) rfl (show mcode 186 51 = some (51, .iconst 0, 1, 0, 0, 0, _) from rfl) (Or.inl ⟨.int 0, rfl, rfl⟩) ?_
  refine XW.fam (S' := (53, [(5, .int y), (4, .int berths), (3, .int men), (2, .int home), (1, .int made), (0, .ref 75)], [.ref 75, .int 0, .ref 81], (sh, I3, L, R))) (M := mr_186) rfl (show mcode 186 52 = some (52, .aload_n 0, 1, 0, 0, 0, _) from rfl) (Or.inl ⟨.ref 75, rfl, rfl⟩) ?_
  refine XW.fam (S' := (56, [(5, .int y), (4, .int berths), (3, .int men), (2, .int home), (1, .int made), (0, .ref 75)], [.ref 82, .int 0, .ref 81], (sh, I3, L, R))) (M := mr_186) rfl (show mcode 186 53 = some (53, .getfield 30, 3, 9, 10, 0, _) from rfl) (Or.inr (Or.inr (Or.inr (Or.inr (Or.inr (Or.inr (Or.inr (Or.inl ⟨_, _, rfl, fl_ld c75 r75_10 (by decide) (by decide), rfl⟩)))))))) ?_
  refine XW.fam (S' := (57, [(5, .int y), (4, .int berths), (3, .int men), (2, .int home), (1, .int made), (0, .ref 75)], [.int 0, .ref 82, .int 0, .ref 81], (sh, I3, L, R))) (M := mr_186) rfl (show mcode 186 56 = some (56, .iconst 0, 1, 0, 0, 0, _) from rfl) (Or.inl ⟨.int 0, rfl, rfl⟩) ?_
  refine XW.fam (S' := (58, [(5, .int y), (4, .int berths), (3, .int men), (2, .int home), (1, .int made), (0, .ref 75)], [.int made, .int 0, .ref 82, .int 0, .ref 81], (sh, I3, L, R))) (M := mr_186) rfl (show mcode 186 57 = some (57, .iload_n 1, 1, 0, 0, 0, _) from rfl) (Or.inl ⟨.int made, rfl, rfl⟩) ?_
  obtain ⟨M0, ix0, hM0, hd0, hl0⟩ := ac_at3
  cases (show some mr_186 = some M0 from hM0)
  refine XW.acp (n0 := 9) (n1 := 9) hM0 hd0 hl0 c81 c82 (by decide) (by decide) h9.1 (by rw [z0]; omega) (by rw [z0]; omega) (by decide) ?_
  have hwc : wOK (mkT vV []) (wE sh R) (sh, cpI I3 81 82 (0 : Int32).toNatClampNeg (0 : Int32).toNatClampNeg made.toNatClampNeg, L, R) := by
    refine ⟨hwI3.1, hwI3.2.1, fun q k => ?_, E_cpI wE_put (fun _ => rfl) hwI3.2.2.2 _⟩
    show (rg (mkT vV []) q k).1 ≤ (cpI I3 81 82 _ _ _ q k).toInt ∧ (cpI I3 81 82 _ _ _ q k).toInt ≤ (rg (mkT vV []) q k).2
    unfold cpI
    split
    · next hq =>
      rw [hq]
      unfold va_cpy
      split
      · exact hwI3.2.2.1 81 _
      · exact hwI3.2.2.1 82 k
    · exact hwI3.2.2.1 q k
  have hfc := fresh_cpI (q0 := 81) (sp := (0 : Int32).toNatClampNeg) (dp := (0 : Int32).toNatClampNeg) (n := made.toNatClampNeg) hfI3 c82
  obtain ⟨Ic, eIc⟩ : ∃ Z, Z = cpI I3 81 82 (0 : Int32).toNatClampNeg (0 : Int32).toNatClampNeg made.toNatClampNeg := ⟨_, rfl⟩
  rw [← eIc] at hwc hfc ⊢
  have k82 : ∀ q k, ¬ q = 82 → Ic q k = I3 q k := by
    intro q k hq
    rw [eIc]
    exact if_neg hq
  have r82 : ∀ k, k < made.toInt.toNat → Ic 82 k = I 81 k := by
    intro k hk
    rw [eIc]
    have e0 : cpI I3 81 82 (0 : Int32).toNatClampNeg (0 : Int32).toNatClampNeg made.toNatClampNeg 82 k = va_cpy (I3 81) (I3 82) (0 : Int32).toNatClampNeg (0 : Int32).toNatClampNeg made.toNatClampNeg k := if_pos rfl
    have z00 : (0 : Int32).toNatClampNeg = 0 := rfl
    have zm : made.toNatClampNeg = made.toInt.toNat := rfl
    rw [e0, z00, zm]
    unfold va_cpy
    rw [if_pos (by omega)]
    have e1 : 0 + (k - 0) = k := by omega
    rw [e1, eI3, up2_ne (fun e => by cases e.1), eI1, up2_ne (fun e => by cases e.1)]
  refine XW.ret (r := none) ⟨rfl, by decide +kernel⟩ ?_
  refine ⟨rfl, hfc, hwc, fun q k h => ?_, fun k _ => ?_, ?_⟩
  · show Ic q k = I q k
    rw [k82 q k (fun e => by rw [e] at h; cases h), eI3, up2_ne (fun e => by rw [e.1, e.2] at h; cases h), eI1, up2_ne (fun e => by rw [e.1, e.2] at h; cases h)]
  · show Ic 81 k = I 81 k
    rw [k82 81 k (by decide), eI3, up2_ne (fun e => by cases e.1), eI1, up2_ne (fun e => by cases e.1)]
  · rw [yyW_none hno, yyL_none hno, bsC_put hlt]
    show bsC Ic = _
    have a1 : Ic 75 12 = home := by rw [k82 75 12 (by decide), eI3, up2_ne (fun e => by cases e.2), eI1, up2_eq]
    have a2 : Ic 75 11 = made := by rw [k82 75 11 (by decide), eI3, up2_eq]
    unfold bsC
    rw [a1, a2, if_neg (by omega), rwL_congr (I := Ic) (J := I) (q := 82) (q' := 81) r82]
theorem cho_lp {d zz : Nat} {sh : List mE} {J I0 Jb : Nat → Nat → Int32} {R : Nat → Nat → Option Nat} {ma mc made home men berths room tu y : Int32} {dd : Int} {s : Nat} {p0 : Option (Int × List Int)} {Q : Option Value → mW → Prop} (hdd : 0 ≤ dd) (hS : stC J ma mc) (hD : dyC J I0 ma mc dd made home men berths) (hs : yyChs ma.toInt.toNat mc.toInt.toNat (vRow J 56 76) dd (vxC J I0 dd ma.toInt.toNat) = some s) (hzz : yyNu (vxC J I0 dd ma.toInt.toNat) ma.toInt.toNat < (zz : Int) + 1) (hkp0 : ∀ q k, inm mdCx q k = false → I0 q k = J q k) (hJb : ∀ q k, ¬ (q = 79 ∧ k = s) → ¬ (q = 80 ∧ k = s) → Jb q k = I0 q k) (b79 : (Jb 79 s).toInt = (I0 79 s).toInt - 1) (b80 : (Jb 80 s).toInt = (I0 80 s).toInt + 2 * vRow J 56 76 s) (IH : ∀ {I : Nat → Nat → Int32} {L : Nat → Nat → Int64} (made home men berths : Int32), wOK (mkT vV []) (wE sh R) (sh, I, L, R) → fresh (sh, I, L, R) → (∀ q k, inm mdCx q k = false → I q k = J q k) → dyC J I ma mc dd made home men berths → yyNu (vxC J I dd ma.toInt.toNat) ma.toInt.toNat < (zz : Int) → Tc 186 (d + 2 + zz) 0 0 [.ref 75, .int made, .int home, .int men, .int berths] (sh, I, L, R) (QCh sh R J dd ma.toInt.toNat mc.toInt.toNat I made home)) (hroom : room.toInt = vRow J 55 76 s) (K : ∀ {I : Nat → Nat → Int32} {L : Nat → Nat → Int64}, wOK (mkT vV []) (wE sh R) (sh, I, L, R) → fresh (sh, I, L, R) → (∀ q k, inm mdCh q k = false → I q k = Jb q k) → (∀ k, k < made.toInt.toNat → I 81 k = Jb 81 k) → bsC I = upY (yyMP (yyG ma.toInt.toNat mc.toInt.toNat (vRow J 55 76) (vRow J 56 76) dd (vxC J I0 dd ma.toInt.toNat) s) (yyH ma.toInt.toNat mc.toInt.toNat (vRow J 55 76) (vRow J 56 76) dd (vxC J I0 dd ma.toInt.toNat) s) mc.toInt.toNat).1 (yyMP (yyG ma.toInt.toNat mc.toInt.toNat (vRow J 55 76) (vRow J 56 76) dd (vxC J I0 dd ma.toInt.toNat) s) (yyH ma.toInt.toNat mc.toInt.toNat (vRow J 55 76) (vRow J 56 76) dd (vxC J I0 dd ma.toInt.toNat) s) mc.toInt.toNat).2 home.toInt (rwL Jb 81 made.toInt.toNat) p0 → ∀ t : Int32, XW 186 mr_186 none (d + 2 + zz + 1) 0 0 Q (208, [(8, .int t), (7, .int tu), (6, .int room), (5, .int y), (4, .int berths), (3, .int men), (2, .int home), (1, .int made), (0, .ref 75)], [], (sh, I, L, R))) : ∀ (z : Nat) {I : Nat → Nat → Int32} {L : Nat → Nat → Int64} (t : Int32), 0 ≤ t.toInt → t.toInt ≤ mc.toInt → mc.toInt - t.toInt < z → wOK (mkT vV []) (wE sh R) (sh, I, L, R) → fresh (sh, I, L, R) → (∀ q k, inm mdCh q k = false → I q k = Jb q k) → (∀ k, k < made.toInt.toNat → I 81 k = Jb 81 k) → bsC I = upY (yyMP (yyG ma.toInt.toNat mc.toInt.toNat (vRow J 55 76) (vRow J 56 76) dd (vxC J I0 dd ma.toInt.toNat) s) (yyH ma.toInt.toNat mc.toInt.toNat (vRow J 55 76) (vRow J 56 76) dd (vxC J I0 dd ma.toInt.toNat) s) t.toInt.toNat).1 (yyMP (yyG ma.toInt.toNat mc.toInt.toNat (vRow J 55 76) (vRow J 56 76) dd (vxC J I0 dd ma.toInt.toNat) s) (yyH ma.toInt.toNat mc.toInt.toNat (vRow J 55 76) (vRow J 56 76) dd (vxC J I0 dd ma.toInt.toNat) s) t.toInt.toNat).2 home.toInt (rwL Jb 81 made.toInt.toNat) p0 → XW 186 mr_186 none (d + 2 + zz + 1) 0 0 Q (122, [(8, .int t), (7, .int tu), (6, .int room), (5, .int y), (4, .int berths), (3, .int men), (2, .int home), (1, .int made), (0, .ref 75)], [], (sh, I, L, R)) := by
  have z0 : (0 : Int32).toInt = 0 := rfl
  have z1 : (1 : Int32).toInt = 1 := rfl
  obtain ⟨⟨hc2, hc3J⟩, ha, hc', hS4⟩ := id hS
  obtain ⟨d1, d2, d3, d4, d5, d6⟩ := id hD
  obtain ⟨q1, q2, -⟩ := yyChs_some hs
  obtain ⟨q3, q4, -⟩ := yyEl_of q2
  have hbs := hS4 s (by omega)
  have hBs : vRow J 55 76 s = (J 55 (J 76 s).toNatClampNeg).toInt := vRow_of hbs.2.1.1
  have hNn := yyNu_pos (x := yyGo (vxC J I0 dd ma.toInt.toNat) s 0 0) (n := ma.toInt.toNat) (fun k _ => by
    show (if k = s then ((vxC J I0 dd ma.toInt.toNat)).2.1 k + 1 else ((vxC J I0 dd ma.toInt.toNat)).2.1 k) ≤ 3
    have := dyC_c hdd hD k
    split
    · next e => rw [e]; omega
    · omega)
  have hNg := yyNu_go (x := (vxC J I0 dd ma.toInt.toNat)) (p := 0) (y := 0) q3 q1
  have hQl := yyQ_le (B := vRow J 55 76) (M := fun k => vMx dd (vRow J 56 76 k)) (x := (vxC J I0 dd ma.toInt.toNat)) (n := ma.toInt.toNat) (fun k hk => by
    have hk1 := hS4 k (by omega)
    rw [vRow_of hk1.2.1.1]
    omega) (fun k hk => by
    have e1 := dyC_c hdd hD k
    have e2 := vMx_rng (d := dd) (p := vRow J 56 76 k) hdd (by have := vRow_ge (J := J) (q := 56) (t := 76) (k := k); omega)
    have e3 := e1.2.2 hk
    omega)
  have hQ0 := yyQ_pos (B := vRow J 55 76) (M := fun k => vMx dd (vRow J 56 76 k)) (x := (vxC J I0 dd ma.toInt.toNat)) (n := ma.toInt.toNat) (fun k _ => by have := vRow_ge (J := J) (q := 55) (t := 76) (k := k); omega) (fun k hk => (dyC_c hdd hD k).2.2 hk)
  have hTn := yyT_nn (W := (vxC J I0 dd ma.toInt.toNat).1) (n := mc.toInt.toNat) (dyC_w hD)
  have hc3 : Jb 75 3 = mc := by rw [hJb 75 3 (fun e => by cases e.1) (fun e => by cases e.1), hkp0 75 3 rfl]; exact hc3J
  intro z
  induction z with
  | zero =>
    intro I L t h1 h2 hz
    exfalso
    omega
  | succ z ih =>
    intro I L t h1 h2 hz hw hf hkp hk81 hz2
    have hc3I : I 75 3 = mc := (hkp 75 3 rfl).trans hc3
    obtain ⟨w, ew⟩ : ∃ w, I 78 (t).toNatClampNeg = w := ⟨_, rfl⟩
    have hxw : (vxC J I0 dd ma.toInt.toNat).1 t.toInt.toNat = w.toInt := by
      show (I0 78 (t).toNatClampNeg).toInt = w.toInt
      rw [← ew, hkp 78 _ rfl, hJb 78 _ (fun e => by cases e.1) (fun e => by cases e.1)]
    have hwt : t.toInt < mc.toInt → 0 ≤ w.toInt ∧ w.toInt ≤ 3000 := by
      intro q
      have a1 := yyT_le (p := t.toInt.toNat) (dyC_w hD) (by omega)
      have a2 := dyC_w hD t.toInt.toNat (by omega)
      rw [hxw] at a1 a2
      omega
    have c75 : sh[75]? = some (.inr 9) := hw.1 75 _ rfl
    have c78 : sh[78]? = some (.inl (.int, 3)) := hw.1 78 _ rfl
    have c81 : sh[81]? = some (.inl (.int, 9)) := hw.1 81 _ rfl
    have r75_6 : R 75 6 = some 78 := hw.2.1 75 6 _ rfl
    have r75_9 : R 75 9 = some 81 := hw.2.1 75 9 _ rfl
    refine XW.fam (S' := (124, [(8, .int t), (7, .int tu), (6, .int room), (5, .int y), (4, .int berths), (3, .int men), (2, .int home), (1, .int made), (0, .ref 75)], [.int t], (sh, I, L, R))) (M := mr_186) rfl (show mcode 186 122 = some (122, .iload 8, 2, 0, 0, 0, _) from rfl) (Or.inl ⟨.int t, rfl, rfl⟩) ?_
    refine XW.fam (S' := (125, [(8, .int t), (7, .int tu), (6, .int room), (5, .int y), (4, .int berths), (3, .int men), (2, .int home), (1, .int made), (0, .ref 75)], [.ref 75, .int t], (sh, I, L, R))) (M := mr_186) rfl (show mcode 186 124 = some (124, .aload_n 0, 1, 0, 0, 0, _) from rfl) (Or.inl ⟨.ref 75, rfl, rfl⟩) ?_
    refine XW.fam (S' := (128, [(8, .int t), (7, .int tu), (6, .int room), (5, .int y), (4, .int berths), (3, .int men), (2, .int home), (1, .int made), (0, .ref 75)], [.int (I 75 3), .int t], (sh, I, L, R))) (M := mr_186) rfl (show mcode 186 125 = some (125, .getfield 68, 3, 9, 3, 0, _) from rfl) (Or.inr (Or.inr (Or.inr (Or.inr (Or.inr (Or.inr (Or.inr (Or.inl ⟨_, _, rfl, fl_ldI c75 (by decide) (by decide), rfl⟩)))))))) ?_
    rw [hc3I]
    cases k1 : bcmp .ge t mc with
    | true =>
      have gk1 : (mc).toInt ≤ (t).toInt := icT (c := .ge) (a := (t).toInt) (b := (mc).toInt) rfl rfl k1
      refine XW.fam (S' := (208, [(8, .int t), (7, .int tu), (6, .int room), (5, .int y), (4, .int berths), (3, .int men), (2, .int home), (1, .int made), (0, .ref 75)], [], (sh, I, L, R))) (M := mr_186) rfl (show mcode 186 128 = some (128, .if_icmp .ge 80, 3, 208, 0, 0, _) from rfl) (Or.inr (Or.inl ⟨208, [], by simp [brn, k1], rfl⟩)) ?_
      have et : t.toInt.toNat = mc.toInt.toNat := by omega
      rw [et] at hz2
      exact K hw hf hkp hk81 hz2 t
    | false =>
      have gk1 : ¬ ((mc).toInt ≤ (t).toInt) := icF (c := .ge) (a := (t).toInt) (b := (mc).toInt) rfl rfl k1
      refine XW.fam (S' := (131, [(8, .int t), (7, .int tu), (6, .int room), (5, .int y), (4, .int berths), (3, .int men), (2, .int home), (1, .int made), (0, .ref 75)], [], (sh, I, L, R))) (M := mr_186) rfl (show mcode 186 128 = some (128, .if_icmp .ge 80, 3, 208, 0, 0, _) from rfl) (Or.inr (Or.inl ⟨131, [], by simp [brn, k1], rfl⟩)) ?_
      refine XW.fam (S' := (132, [(8, .int t), (7, .int tu), (6, .int room), (5, .int y), (4, .int berths), (3, .int men), (2, .int home), (1, .int made), (0, .ref 75)], [.ref 75], (sh, I, L, R))) (M := mr_186) rfl (show mcode 186 131 = some (131, .aload_n 0, 1, 0, 0, 0, _) from rfl) (Or.inl ⟨.ref 75, rfl, rfl⟩) ?_
      refine XW.fam (S' := (135, [(8, .int t), (7, .int tu), (6, .int room), (5, .int y), (4, .int berths), (3, .int men), (2, .int home), (1, .int made), (0, .ref 75)], [.ref 78], (sh, I, L, R))) (M := mr_186) rfl (show mcode 186 132 = some (132, .getfield 18, 3, 9, 6, 0, _) from rfl) (Or.inr (Or.inr (Or.inr (Or.inr (Or.inr (Or.inr (Or.inr (Or.inl ⟨_, _, rfl, fl_ld c75 r75_6 (by decide) (by decide), rfl⟩)))))))) ?_
      refine XW.fam (S' := (137, [(8, .int t), (7, .int tu), (6, .int room), (5, .int y), (4, .int berths), (3, .int men), (2, .int home), (1, .int made), (0, .ref 75)], [.int t, .ref 78], (sh, I, L, R))) (M := mr_186) rfl (show mcode 186 135 = some (135, .iload 8, 2, 0, 0, 0, _) from rfl) (Or.inl ⟨.int t, rfl, rfl⟩) ?_
      have hin2 : inR t 3 = true := inR_of (by omega) (by omega)
      refine XW.fam (S' := (138, [(8, .int t), (7, .int tu), (6, .int room), (5, .int y), (4, .int berths), (3, .int men), (2, .int home), (1, .int made), (0, .ref 75)], [.int (I 78 (t).toNatClampNeg)], (sh, I, L, R))) (M := mr_186) rfl (show mcode 186 137 = some (137, .iaload, 1, 0, 0, 0, _) from rfl) (Or.inr (Or.inr (Or.inl ⟨_, lda_i c78 hin2, rfl⟩))) ?_
      rw [ew]
      refine XW.fam (S' := (140, [(8, .int t), (7, .int tu), (6, .int room), (5, .int y), (4, .int berths), (3, .int men), (2, .int home), (1, .int made), (0, .ref 75)], [.int room, .int w], (sh, I, L, R))) (M := mr_186) rfl (show mcode 186 138 = some (138, .iload 6, 2, 0, 0, 0, _) from rfl) (Or.inl ⟨.int room, rfl, rfl⟩) ?_
      refine XW.call (d' := d) (mc' := 0) (ms' := 0) (av := [.int w, .int room]) (rest := []) (M := mr_186) (Ma := mr_21) rfl (show mcode 186 140 = some (140, .invokestatic 83, 3, 21, 0, 0, _) from rfl) rfl (by decide) (by decide) rfl rfl rfl (show 0 ≤ 8 by decide) (tc_min) (by omega) (Nat.zero_le _) (Nat.zero_le _) (fun rQ3 wQ3 Q3 => ?_)
      obtain ⟨rfl, rfl⟩ := Q3
      obtain ⟨mn, emn⟩ : ∃ z : Int32, z = (if room < w then room else w) := ⟨_, rfl⟩
      rw [← emn]
      have tmn := minI emn
      have tm2 : mn.toInt ≤ w.toInt ∧ mn.toInt ≤ room.toInt ∧ (mn.toInt = w.toInt ∨ mn.toInt = room.toInt) := by
        rw [tmn]
        split <;> omega
      have egy : mn.toInt = yyBy (vRow J 55 76) (vxC J I0 dd ma.toInt.toNat) s t.toInt.toNat := by
        unfold yyBy
        rw [hxw, ← hroom, tmn]
        split <;> split <;> omega
      refine XW.fam (S' := (145, [(9, .int mn), (8, .int t), (7, .int tu), (6, .int room), (5, .int y), (4, .int berths), (3, .int men), (2, .int home), (1, .int made), (0, .ref 75)], [], (sh, I, L, R))) (M := mr_186) rfl (show mcode 186 143 = some (143, .istore 9, 2, 0, 0, 0, _) from rfl) (Or.inr (Or.inr (Or.inr (Or.inr (Or.inr (Or.inr (Or.inl ⟨_, [], _, rfl, rfl, rfl⟩))))))) ?_
      refine XW.fam (S' := (147, [(9, .int mn), (8, .int t), (7, .int tu), (6, .int room), (5, .int y), (4, .int berths), (3, .int men), (2, .int home), (1, .int made), (0, .ref 75)], [.int mn], (sh, I, L, R))) (M := mr_186) rfl (show mcode 186 145 = some (145, .iload 9, 2, 0, 0, 0, _) from rfl) (Or.inl ⟨.int mn, rfl, rfl⟩) ?_
      cases k4 : bcmp .le mn 0 with
      | true =>
        have gk4 : (mn).toInt ≤ 0 := icT (c := .le) (a := (mn).toInt) (b := 0) rfl (by decide) k4
        refine XW.fam (S' := (202, [(9, .int mn), (8, .int t), (7, .int tu), (6, .int room), (5, .int y), (4, .int berths), (3, .int men), (2, .int home), (1, .int made), (0, .ref 75)], [], (sh, I, L, R))) (M := mr_186) rfl (show mcode 186 147 = some (147, .ifCond .le 55, 3, 202, 0, 0, _) from rfl) (Or.inr (Or.inl ⟨202, [], by simp [brn, k4], rfl⟩)) ?_
        refine XW.fam (S' := (205, [(8, .int (t + Int32.ofInt 1)), (9, .int mn), (7, .int tu), (6, .int room), (5, .int y), (4, .int berths), (3, .int men), (2, .int home), (1, .int made), (0, .ref 75)], [], (sh, I, L, R))) (M := mr_186) rfl (show mcode 186 202 = some (202, .iinc 8 1, 3, 0, 0, 0, _) from rfl) (Or.inr (Or.inr (Or.inr (Or.inr (Or.inr (Or.inr (Or.inr (Or.inr (Or.inr ⟨8, 1, t, rfl, rfl, by decide, rfl⟩))))))))) ?_
        refine XW.fam (S' := (122, [(8, .int (t + Int32.ofInt 1)), (9, .int mn), (7, .int tu), (6, .int room), (5, .int y), (4, .int berths), (3, .int men), (2, .int home), (1, .int made), (0, .ref 75)], [], (sh, I, L, R))) (M := mr_186) rfl (show mcode 186 205 = some (205, .goto (-83), 3, 122, 0, 0, _) from rfl) (Or.inr (Or.inl ⟨122, [], rfl, rfl⟩)) ?_
        have eo := incO (m := t) (by omega) (by omega)
        have en : (t + Int32.ofInt 1).toInt.toNat = t.toInt.toNat + 1 := by omega
        refine XW.sub (ls' := [(8, .int (t + Int32.ofInt 1)), (7, .int tu), (6, .int room), (5, .int y), (4, .int berths), (3, .int men), (2, .int home), (1, .int made), (0, .ref 75)]) (List.forall_mem_cons.mpr ⟨List.mem_of_getElem? (i := 0) rfl, (List.forall_mem_cons.mpr ⟨List.mem_of_getElem? (i := 2) rfl, (List.forall_mem_cons.mpr ⟨List.mem_of_getElem? (i := 3) rfl, (List.forall_mem_cons.mpr ⟨List.mem_of_getElem? (i := 4) rfl, (List.forall_mem_cons.mpr ⟨List.mem_of_getElem? (i := 5) rfl, (List.forall_mem_cons.mpr ⟨List.mem_of_getElem? (i := 6) rfl, (List.forall_mem_cons.mpr ⟨List.mem_of_getElem? (i := 7) rfl, (List.forall_mem_cons.mpr ⟨List.mem_of_getElem? (i := 8) rfl, (List.forall_mem_cons.mpr ⟨List.mem_of_getElem? (i := 9) rfl, (fun _ h => absurd h List.not_mem_nil)⟩)⟩)⟩)⟩)⟩)⟩)⟩)⟩)⟩) ?_
        have eg : (yyG ma.toInt.toNat mc.toInt.toNat (vRow J 55 76) (vRow J 56 76) dd (vxC J I0 dd ma.toInt.toNat) s) t.toInt.toNat = -1 := if_neg (show ¬ 0 < (vxC J I0 dd ma.toInt.toNat).1 t.toInt.toNat by rw [hxw]; omega)
        refine ih (t + Int32.ofInt 1) (by omega) (by omega) (by omega) hw hf hkp hk81 ?_
        rw [en, yyMP_skip eg]
        exact hz2
      | false =>
        have gk4 : ¬ ((mn).toInt ≤ 0) := icF (c := .le) (a := (mn).toInt) (b := 0) rfl (by decide) k4
        refine XW.fam (S' := (150, [(9, .int mn), (8, .int t), (7, .int tu), (6, .int room), (5, .int y), (4, .int berths), (3, .int men), (2, .int home), (1, .int made), (0, .ref 75)], [], (sh, I, L, R))) (M := mr_186) rfl (show mcode 186 147 = some (147, .ifCond .le 55, 3, 202, 0, 0, _) from rfl) (Or.inr (Or.inl ⟨150, [], by simp [brn, k4], rfl⟩)) ?_
        refine XW.fam (S' := (151, [(9, .int mn), (8, .int t), (7, .int tu), (6, .int room), (5, .int y), (4, .int berths), (3, .int men), (2, .int home), (1, .int made), (0, .ref 75)], [.ref 75], (sh, I, L, R))) (M := mr_186) rfl (show mcode 186 150 = some (150, .aload_n 0, 1, 0, 0, 0, _) from rfl) (Or.inl ⟨.ref 75, rfl, rfl⟩) ?_
        refine XW.fam (S' := (154, [(9, .int mn), (8, .int t), (7, .int tu), (6, .int room), (5, .int y), (4, .int berths), (3, .int men), (2, .int home), (1, .int made), (0, .ref 75)], [.ref 81], (sh, I, L, R))) (M := mr_186) rfl (show mcode 186 151 = some (151, .getfield 27, 3, 9, 9, 0, _) from rfl) (Or.inr (Or.inr (Or.inr (Or.inr (Or.inr (Or.inr (Or.inr (Or.inl ⟨_, _, rfl, fl_ld c75 r75_9 (by decide) (by decide), rfl⟩)))))))) ?_
        refine XW.fam (S' := (155, [(9, .int mn), (8, .int t), (7, .int tu), (6, .int room), (5, .int y), (4, .int berths), (3, .int men), (2, .int home), (1, .int made), (0, .ref 75)], [.int made, .ref 81], (sh, I, L, R))) (M := mr_186) rfl (show mcode 186 154 = some (154, .iload_n 1, 1, 0, 0, 0, _) from rfl) (Or.inl ⟨.int made, rfl, rfl⟩) ?_
        refine XW.fam (S' := (157, [(9, .int mn), (8, .int t), (7, .int tu), (6, .int room), (5, .int y), (4, .int berths), (3, .int men), (2, .int home), (1, .int made), (0, .ref 75)], [.int t, .int made, .ref 81], (sh, I, L, R))) (M := mr_186) rfl (show mcode 186 155 = some (155, .iload 8, 2, 0, 0, 0, _) from rfl) (Or.inl ⟨.int t, rfl, rfl⟩) ?_
        have hin5 : inR made 9 = true := inR_of (by omega) (by omega)
        obtain ⟨I6, eI6⟩ : ∃ X, X = up2 I 81 (made).toNatClampNeg t := ⟨_, rfl⟩
        refine XW.fam (S' := (158, [(9, .int mn), (8, .int t), (7, .int tu), (6, .int room), (5, .int y), (4, .int berths), (3, .int men), (2, .int home), (1, .int made), (0, .ref 75)], [], (sh, I6, L, R))) (M := mr_186) rfl (show mcode 186 157 = some (157, .iastore, 1, 0, 0, 0, _) from rfl) (Or.inr (Or.inr (Or.inr (Or.inl ⟨_, _, by rw [eI6]; exact sta_i c81 hin5, rfl⟩)))) ?_
        have hwI6 : wOK (mkT vV []) (wE sh R) (sh, I6, L, R) := by rw [eI6]; exact wOK_u2 (q := 81) (k := (made).toNatClampNeg) (x := t) wE_put hw rfl (by show (0 : Int) ≤ _; omega) (by show _ ≤ (2 : Int); omega)
        have hfI6 : fresh (sh, I6, L, R) := by rw [eI6]; exact fresh_I hf c81
        have v7 : I6 75 3 = mc := by rw [eI6, up2_ne (fun e => by cases e.1)]; exact hc3I
        have v8 : I6 78 (t).toNatClampNeg = w := by rw [eI6, up2_ne (fun e => by cases e.1)]; exact ew
        have v9 : I6 81 (made).toNatClampNeg = t := by rw [eI6]; exact up2_eq
        refine XW.fam (S' := (159, [(9, .int mn), (8, .int t), (7, .int tu), (6, .int room), (5, .int y), (4, .int berths), (3, .int men), (2, .int home), (1, .int made), (0, .ref 75)], [.ref 75], (sh, I6, L, R))) (M := mr_186) rfl (show mcode 186 158 = some (158, .aload_n 0, 1, 0, 0, 0, _) from rfl) (Or.inl ⟨.ref 75, rfl, rfl⟩) ?_
        refine XW.fam (S' := (162, [(9, .int mn), (8, .int t), (7, .int tu), (6, .int room), (5, .int y), (4, .int berths), (3, .int men), (2, .int home), (1, .int made), (0, .ref 75)], [.ref 78], (sh, I6, L, R))) (M := mr_186) rfl (show mcode 186 159 = some (159, .getfield 18, 3, 9, 6, 0, _) from rfl) (Or.inr (Or.inr (Or.inr (Or.inr (Or.inr (Or.inr (Or.inr (Or.inl ⟨_, _, rfl, fl_ld c75 r75_6 (by decide) (by decide), rfl⟩)))))))) ?_
        refine XW.fam (S' := (164, [(9, .int mn), (8, .int t), (7, .int tu), (6, .int room), (5, .int y), (4, .int berths), (3, .int men), (2, .int home), (1, .int made), (0, .ref 75)], [.int t, .ref 78], (sh, I6, L, R))) (M := mr_186) rfl (show mcode 186 162 = some (162, .iload 8, 2, 0, 0, 0, _) from rfl) (Or.inl ⟨.int t, rfl, rfl⟩) ?_
        refine XW.fam (S' := (165, [(9, .int mn), (8, .int t), (7, .int tu), (6, .int room), (5, .int y), (4, .int berths), (3, .int men), (2, .int home), (1, .int made), (0, .ref 75)], [.int t, .ref 78, .int t, .ref 78], (sh, I6, L, R))) (M := mr_186) rfl (show mcode 186 164 = some (164, .dup2, 1, 0, 0, 0, _) from rfl) (Or.inr (Or.inr (Or.inr (Or.inr (Or.inr (Or.inl ⟨_, rfl, rfl⟩)))))) ?_
        have hin10 : inR t 3 = true := inR_of (by omega) (by omega)
        refine XW.fam (S' := (166, [(9, .int mn), (8, .int t), (7, .int tu), (6, .int room), (5, .int y), (4, .int berths), (3, .int men), (2, .int home), (1, .int made), (0, .ref 75)], [.int (I6 78 (t).toNatClampNeg), .int t, .ref 78], (sh, I6, L, R))) (M := mr_186) rfl (show mcode 186 165 = some (165, .iaload, 1, 0, 0, 0, _) from rfl) (Or.inr (Or.inr (Or.inl ⟨_, lda_i c78 hin10, rfl⟩))) ?_
        rw [v8]
        refine XW.fam (S' := (168, [(9, .int mn), (8, .int t), (7, .int tu), (6, .int room), (5, .int y), (4, .int berths), (3, .int men), (2, .int home), (1, .int made), (0, .ref 75)], [.int mn, .int w, .int t, .ref 78], (sh, I6, L, R))) (M := mr_186) rfl (show mcode 186 166 = some (166, .iload 9, 2, 0, 0, 0, _) from rfl) (Or.inl ⟨.int mn, rfl, rfl⟩) ?_
        refine XW.fam (S' := (169, [(9, .int mn), (8, .int t), (7, .int tu), (6, .int room), (5, .int y), (4, .int berths), (3, .int men), (2, .int home), (1, .int made), (0, .ref 75)], [.int (w - mn), .int t, .ref 78], (sh, I6, L, R))) (M := mr_186) rfl (show mcode 186 168 = some (168, .isub, 1, 0, 0, 0, _) from rfl) (Or.inr (Or.inr (Or.inr (Or.inr (Or.inr (Or.inl ⟨_, rfl, rfl⟩)))))) ?_
        have hin11 : inR t 3 = true := inR_of (by omega) (by omega)
        obtain ⟨I12, eI12⟩ : ∃ X, X = up2 I6 78 (t).toNatClampNeg (w - mn) := ⟨_, rfl⟩
        refine XW.fam (S' := (170, [(9, .int mn), (8, .int t), (7, .int tu), (6, .int room), (5, .int y), (4, .int berths), (3, .int men), (2, .int home), (1, .int made), (0, .ref 75)], [], (sh, I12, L, R))) (M := mr_186) rfl (show mcode 186 169 = some (169, .iastore, 1, 0, 0, 0, _) from rfl) (Or.inr (Or.inr (Or.inr (Or.inl ⟨_, _, by rw [eI12]; exact sta_i c78 hin11, rfl⟩)))) ?_
        have xb := i32b ((w - mn))
        unfold lo32 hi32 at xb
        have hwI12 : wOK (mkT vV []) (wE sh R) (sh, I12, L, R) := by rw [eI12]; exact wOK_u2 (q := 78) (k := (t).toNatClampNeg) (x := (w - mn)) wE_put hwI6 rfl (by show ((-2147483648) : Int) ≤ _; omega) (by show _ ≤ (2147483647 : Int); omega)
        have hfI12 : fresh (sh, I12, L, R) := by rw [eI12]; exact fresh_I hfI6 c78
        have v13 : I12 75 3 = mc := by rw [eI12, up2_ne (fun e => by cases e.1)]; exact v7
        have v15 : I12 81 (made).toNatClampNeg = t := by rw [eI12, up2_ne (fun e => by cases e.1)]; exact v9
        have v16 : I12 78 (t).toNatClampNeg = (w - mn) := by rw [eI12]; exact up2_eq
        refine XW.fam (S' := (171, [(9, .int mn), (8, .int t), (7, .int tu), (6, .int room), (5, .int y), (4, .int berths), (3, .int men), (2, .int home), (1, .int made), (0, .ref 75)], [.ref 75], (sh, I12, L, R))) (M := mr_186) rfl (show mcode 186 170 = some (170, .aload_n 0, 1, 0, 0, 0, _) from rfl) (Or.inl ⟨.ref 75, rfl, rfl⟩) ?_
        refine XW.fam (S' := (172, [(9, .int mn), (8, .int t), (7, .int tu), (6, .int room), (5, .int y), (4, .int berths), (3, .int men), (2, .int home), (1, .int made), (0, .ref 75)], [.int made, .ref 75], (sh, I12, L, R))) (M := mr_186) rfl (show mcode 186 171 = some (171, .iload_n 1, 1, 0, 0, 0, _) from rfl) (Or.inl ⟨.int made, rfl, rfl⟩) ?_
        refine XW.fam (S' := (173, [(9, .int mn), (8, .int t), (7, .int tu), (6, .int room), (5, .int y), (4, .int berths), (3, .int men), (2, .int home), (1, .int made), (0, .ref 75)], [.int 1, .int made, .ref 75], (sh, I12, L, R))) (M := mr_186) rfl (show mcode 186 172 = some (172, .iconst 1, 1, 0, 0, 0, _) from rfl) (Or.inl ⟨.int 1, rfl, rfl⟩) ?_
        refine XW.fam (S' := (174, [(9, .int mn), (8, .int t), (7, .int tu), (6, .int room), (5, .int y), (4, .int berths), (3, .int men), (2, .int home), (1, .int made), (0, .ref 75)], [.int (made + 1), .ref 75], (sh, I12, L, R))) (M := mr_186) rfl (show mcode 186 173 = some (173, .iadd, 1, 0, 0, 0, _) from rfl) (Or.inr (Or.inr (Or.inr (Or.inr (Or.inr (Or.inl ⟨_, rfl, rfl⟩)))))) ?_
        refine XW.fam (S' := (175, [(9, .int mn), (8, .int t), (7, .int tu), (6, .int room), (5, .int y), (4, .int berths), (3, .int men), (2, .int home), (1, .int made), (0, .ref 75)], [.int home, .int (made + 1), .ref 75], (sh, I12, L, R))) (M := mr_186) rfl (show mcode 186 174 = some (174, .iload_n 2, 1, 0, 0, 0, _) from rfl) (Or.inl ⟨.int home, rfl, rfl⟩) ?_
        refine XW.fam (S' := (177, [(9, .int mn), (8, .int t), (7, .int tu), (6, .int room), (5, .int y), (4, .int berths), (3, .int men), (2, .int home), (1, .int made), (0, .ref 75)], [.int mn, .int home, .int (made + 1), .ref 75], (sh, I12, L, R))) (M := mr_186) rfl (show mcode 186 175 = some (175, .iload 9, 2, 0, 0, 0, _) from rfl) (Or.inl ⟨.int mn, rfl, rfl⟩) ?_
        refine XW.fam (S' := (178, [(9, .int mn), (8, .int t), (7, .int tu), (6, .int room), (5, .int y), (4, .int berths), (3, .int men), (2, .int home), (1, .int made), (0, .ref 75)], [.int (home + mn), .int (made + 1), .ref 75], (sh, I12, L, R))) (M := mr_186) rfl (show mcode 186 177 = some (177, .iadd, 1, 0, 0, 0, _) from rfl) (Or.inr (Or.inr (Or.inr (Or.inr (Or.inr (Or.inl ⟨_, rfl, rfl⟩)))))) ?_
        refine XW.fam (S' := (179, [(9, .int mn), (8, .int t), (7, .int tu), (6, .int room), (5, .int y), (4, .int berths), (3, .int men), (2, .int home), (1, .int made), (0, .ref 75)], [.int men, .int (home + mn), .int (made + 1), .ref 75], (sh, I12, L, R))) (M := mr_186) rfl (show mcode 186 178 = some (178, .iload_n 3, 1, 0, 0, 0, _) from rfl) (Or.inl ⟨.int men, rfl, rfl⟩) ?_
        refine XW.fam (S' := (181, [(9, .int mn), (8, .int t), (7, .int tu), (6, .int room), (5, .int y), (4, .int berths), (3, .int men), (2, .int home), (1, .int made), (0, .ref 75)], [.int mn, .int men, .int (home + mn), .int (made + 1), .ref 75], (sh, I12, L, R))) (M := mr_186) rfl (show mcode 186 179 = some (179, .iload 9, 2, 0, 0, 0, _) from rfl) (Or.inl ⟨.int mn, rfl, rfl⟩) ?_
        refine XW.fam (S' := (182, [(9, .int mn), (8, .int t), (7, .int tu), (6, .int room), (5, .int y), (4, .int berths), (3, .int men), (2, .int home), (1, .int made), (0, .ref 75)], [.int (men - mn), .int (home + mn), .int (made + 1), .ref 75], (sh, I12, L, R))) (M := mr_186) rfl (show mcode 186 181 = some (181, .isub, 1, 0, 0, 0, _) from rfl) (Or.inr (Or.inr (Or.inr (Or.inr (Or.inr (Or.inl ⟨_, rfl, rfl⟩)))))) ?_
        refine XW.fam (S' := (184, [(9, .int mn), (8, .int t), (7, .int tu), (6, .int room), (5, .int y), (4, .int berths), (3, .int men), (2, .int home), (1, .int made), (0, .ref 75)], [.int berths, .int (men - mn), .int (home + mn), .int (made + 1), .ref 75], (sh, I12, L, R))) (M := mr_186) rfl (show mcode 186 182 = some (182, .iload 4, 2, 0, 0, 0, _) from rfl) (Or.inl ⟨.int berths, rfl, rfl⟩) ?_
        refine XW.fam (S' := (186, [(9, .int mn), (8, .int t), (7, .int tu), (6, .int room), (5, .int y), (4, .int berths), (3, .int men), (2, .int home), (1, .int made), (0, .ref 75)], [.int room, .int berths, .int (men - mn), .int (home + mn), .int (made + 1), .ref 75], (sh, I12, L, R))) (M := mr_186) rfl (show mcode 186 184 = some (184, .iload 6, 2, 0, 0, 0, _) from rfl) (Or.inl ⟨.int room, rfl, rfl⟩) ?_
        refine XW.fam (S' := (187, [(9, .int mn), (8, .int t), (7, .int tu), (6, .int room), (5, .int y), (4, .int berths), (3, .int men), (2, .int home), (1, .int made), (0, .ref 75)], [.int (berths - room), .int (men - mn), .int (home + mn), .int (made + 1), .ref 75], (sh, I12, L, R))) (M := mr_186) rfl (show mcode 186 186 = some (186, .isub, 1, 0, 0, 0, _) from rfl) (Or.inr (Or.inr (Or.inr (Or.inr (Or.inr (Or.inl ⟨_, rfl, rfl⟩)))))) ?_
        have tn : (t).toNatClampNeg = t.toInt.toNat := rfl
        have mdn : (made).toNatClampNeg = made.toInt.toNat := rfl
        have f1 := inc32 (m := made) (by omega) (by omega)
        have f2 := sumS (a := home) (b := mn) (by omega) (by omega)
        have f3 := difS (a := men) (b := mn) (by omega) (by omega)
        have f4 := difS (a := berths) (b := room) (by omega) (by omega)
        have f5 := difS (a := w) (b := mn) (by omega) (by omega)
        have kI : ∀ q k, ¬ q = 81 → ¬ (q = 78 ∧ k = t.toInt.toNat) → inm mdCh q k = false → I12 q k = Jb q k := by
          intro q k a1 a2 a3
          rw [eI12, up2_ne (fun e => a2 ⟨e.1, by exact e.2⟩), eI6, up2_ne (fun e => a1 e.1)]
          exact hkp q k a3
        have k0 : ∀ q k, ¬ q = 81 → ¬ (q = 78 ∧ k = t.toInt.toNat) → ¬ (q = 79 ∧ k = s) → ¬ (q = 80 ∧ k = s) → inm mdCh q k = false → I12 q k = I0 q k := fun q k a1 a2 a3 a4 a5 => (kI q k a1 a2 a5).trans (hJb q k a3 a4)
        have v78 : I12 78 t.toInt.toNat = w - mn := by rw [← tn, eI12]; exact up2_eq
        have i78 : I0 78 t.toInt.toNat = w := by rw [← hJb 78 _ (fun e => by cases e.1) (fun e => by cases e.1), ← hkp 78 _ rfl]; exact ew
        obtain ⟨gx, gd⟩ := dyC_go (I2 := I12) (made' := (made + 1)) (home' := (home + mn)) (men' := (men - mn)) (berths' := (berths - room)) (t := t.toInt.toNat) (go := mn.toInt) hdd hS hD hs (by omega) egy (by rw [i78]; omega) (by rw [kI 79 s (by decide) (fun e => by cases e.1) rfl, b79]) (fun k hk => k0 79 k (by decide) (fun e => by cases e.1) (fun e => hk e.2) (fun e => by cases e.1) rfl) (by rw [kI 80 s (by decide) (fun e => by cases e.1) rfl, b80]) (fun k hk => k0 80 k (by decide) (fun e => by cases e.1) (fun e => by cases e.1) (fun e => hk e.2) rfl) (by rw [v78, f5, i78]) (fun k hk => k0 78 k (by decide) (fun e => hk e.2) (fun e => by cases e.1) (fun e => by cases e.1) rfl) f1 f2 f3 (by rw [f4, hroom])
        have gn := yyNu_go (x := (vxC J I0 dd ma.toInt.toNat)) (p := t.toInt.toNat) (y := mn.toInt) q3 q1
        refine XW.call (d' := d + 2 + zz) (mc' := 0) (ms' := 0) (av := [.ref 75, .int (made + 1), .int (home + mn), .int (men - mn), .int (berths - room)]) (rest := []) (M := mr_186) (Ma := mr_186) rfl (show mcode 186 187 = some (187, .invokevirtual 95, 3, 186, 0, 0, _) from rfl) rfl (by decide) (by decide) ⟨rfl, 75, _, rfl, c75⟩ rfl rfl (show 0 ≤ 8 by decide) (IH (I := I12) (L := L) (made + 1) (home + mn) (men - mn) (berths - room) hwI12 hfI12 (fun q k hq => (k0 q k (fun e => by rw [e] at hq; cases hq) (fun e => by rw [e.1] at hq; cases hq) (fun e => by rw [e.1] at hq; cases hq) (fun e => by rw [e.1] at hq; cases hq) (inm_hx hq)).trans (hkp0 q k hq)) gd (by rw [gx]; omega)) (by omega) (Nat.zero_le _) (Nat.zero_le _) (fun rQ17 wQ17 Q17 => ?_)
        obtain ⟨hrQ17, hfQ17, hwQ17, hIQ17, hPQ17, hZQ17⟩ := Q17
        subst hrQ17
        obtain ⟨shQ17, IQ17, LQ17, RQ17⟩ := wQ17
        obtain rfl : sh = shQ17 := hwQ17.2.2.2.1.symm
        obtain rfl : R = RQ17 := hwQ17.2.2.2.2.1.symm
        have vwQ17 : IQ17 78 (t).toNatClampNeg = w - mn := (hIQ17 78 _ rfl).trans v78
        have vcQ17 : IQ17 75 3 = mc := (hIQ17 75 3 rfl).trans ((kI 75 3 (by decide) (fun e => by cases e.1) rfl).trans hc3)
        refine XW.fam (S' := (191, [(9, .int mn), (8, .int t), (7, .int tu), (6, .int room), (5, .int y), (4, .int berths), (3, .int men), (2, .int home), (1, .int made), (0, .ref 75)], [.ref 75], (sh, IQ17, LQ17, R))) (M := mr_186) rfl (show mcode 186 190 = some (190, .aload_n 0, 1, 0, 0, 0, _) from rfl) (Or.inl ⟨.ref 75, rfl, rfl⟩) ?_
        refine XW.fam (S' := (194, [(9, .int mn), (8, .int t), (7, .int tu), (6, .int room), (5, .int y), (4, .int berths), (3, .int men), (2, .int home), (1, .int made), (0, .ref 75)], [.ref 78], (sh, IQ17, LQ17, R))) (M := mr_186) rfl (show mcode 186 191 = some (191, .getfield 18, 3, 9, 6, 0, _) from rfl) (Or.inr (Or.inr (Or.inr (Or.inr (Or.inr (Or.inr (Or.inr (Or.inl ⟨_, _, rfl, fl_ld c75 r75_6 (by decide) (by decide), rfl⟩)))))))) ?_
        refine XW.fam (S' := (196, [(9, .int mn), (8, .int t), (7, .int tu), (6, .int room), (5, .int y), (4, .int berths), (3, .int men), (2, .int home), (1, .int made), (0, .ref 75)], [.int t, .ref 78], (sh, IQ17, LQ17, R))) (M := mr_186) rfl (show mcode 186 194 = some (194, .iload 8, 2, 0, 0, 0, _) from rfl) (Or.inl ⟨.int t, rfl, rfl⟩) ?_
        refine XW.fam (S' := (197, [(9, .int mn), (8, .int t), (7, .int tu), (6, .int room), (5, .int y), (4, .int berths), (3, .int men), (2, .int home), (1, .int made), (0, .ref 75)], [.int t, .ref 78, .int t, .ref 78], (sh, IQ17, LQ17, R))) (M := mr_186) rfl (show mcode 186 196 = some (196, .dup2, 1, 0, 0, 0, _) from rfl) (Or.inr (Or.inr (Or.inr (Or.inr (Or.inr (Or.inl ⟨_, rfl, rfl⟩)))))) ?_
        have hin18 : inR t 3 = true := inR_of (by omega) (by omega)
        refine XW.fam (S' := (198, [(9, .int mn), (8, .int t), (7, .int tu), (6, .int room), (5, .int y), (4, .int berths), (3, .int men), (2, .int home), (1, .int made), (0, .ref 75)], [.int (IQ17 78 (t).toNatClampNeg), .int t, .ref 78], (sh, IQ17, LQ17, R))) (M := mr_186) rfl (show mcode 186 197 = some (197, .iaload, 1, 0, 0, 0, _) from rfl) (Or.inr (Or.inr (Or.inl ⟨_, lda_i c78 hin18, rfl⟩))) ?_
        rw [vwQ17]
        refine XW.fam (S' := (200, [(9, .int mn), (8, .int t), (7, .int tu), (6, .int room), (5, .int y), (4, .int berths), (3, .int men), (2, .int home), (1, .int made), (0, .ref 75)], [.int mn, .int (w - mn), .int t, .ref 78], (sh, IQ17, LQ17, R))) (M := mr_186) rfl (show mcode 186 198 = some (198, .iload 9, 2, 0, 0, 0, _) from rfl) (Or.inl ⟨.int mn, rfl, rfl⟩) ?_
        refine XW.fam (S' := (201, [(9, .int mn), (8, .int t), (7, .int tu), (6, .int room), (5, .int y), (4, .int berths), (3, .int men), (2, .int home), (1, .int made), (0, .ref 75)], [.int ((w - mn) + mn), .int t, .ref 78], (sh, IQ17, LQ17, R))) (M := mr_186) rfl (show mcode 186 200 = some (200, .iadd, 1, 0, 0, 0, _) from rfl) (Or.inr (Or.inr (Or.inr (Or.inr (Or.inr (Or.inl ⟨_, rfl, rfl⟩)))))) ?_
        have hin19 : inR t 3 = true := inR_of (by omega) (by omega)
        obtain ⟨I20, eI20⟩ : ∃ X, X = up2 IQ17 78 (t).toNatClampNeg ((w - mn) + mn) := ⟨_, rfl⟩
        refine XW.fam (S' := (202, [(9, .int mn), (8, .int t), (7, .int tu), (6, .int room), (5, .int y), (4, .int berths), (3, .int men), (2, .int home), (1, .int made), (0, .ref 75)], [], (sh, I20, LQ17, R))) (M := mr_186) rfl (show mcode 186 201 = some (201, .iastore, 1, 0, 0, 0, _) from rfl) (Or.inr (Or.inr (Or.inr (Or.inl ⟨_, _, by rw [eI20]; exact sta_i c78 hin19, rfl⟩)))) ?_
        have xb := i32b (((w - mn) + mn))
        unfold lo32 hi32 at xb
        have hwI20 : wOK (mkT vV []) (wE sh R) (sh, I20, LQ17, R) := by rw [eI20]; exact wOK_u2 (q := 78) (k := (t).toNatClampNeg) (x := ((w - mn) + mn)) wE_put hwQ17 rfl (by show ((-2147483648) : Int) ≤ _; omega) (by show _ ≤ (2147483647 : Int); omega)
        have hfI20 : fresh (sh, I20, LQ17, R) := by rw [eI20]; exact fresh_I hfQ17 c78
        have v22 : I20 75 3 = mc := by rw [eI20, up2_ne (fun e => by cases e.1)]; exact vcQ17
        have v23 : I20 78 (t).toNatClampNeg = ((w - mn) + mn) := by rw [eI20]; exact up2_eq
        refine XW.fam (S' := (205, [(8, .int (t + Int32.ofInt 1)), (9, .int mn), (7, .int tu), (6, .int room), (5, .int y), (4, .int berths), (3, .int men), (2, .int home), (1, .int made), (0, .ref 75)], [], (sh, I20, LQ17, R))) (M := mr_186) rfl (show mcode 186 202 = some (202, .iinc 8 1, 3, 0, 0, 0, _) from rfl) (Or.inr (Or.inr (Or.inr (Or.inr (Or.inr (Or.inr (Or.inr (Or.inr (Or.inr ⟨8, 1, t, rfl, rfl, by decide, rfl⟩))))))))) ?_
        refine XW.fam (S' := (122, [(8, .int (t + Int32.ofInt 1)), (9, .int mn), (7, .int tu), (6, .int room), (5, .int y), (4, .int berths), (3, .int men), (2, .int home), (1, .int made), (0, .ref 75)], [], (sh, I20, LQ17, R))) (M := mr_186) rfl (show mcode 186 205 = some (205, .goto (-83), 3, 122, 0, 0, _) from rfl) (Or.inr (Or.inl ⟨122, [], rfl, rfl⟩)) ?_
        have eo := incO (m := t) (by omega) (by omega)
        have en : (t + Int32.ofInt 1).toInt.toNat = t.toInt.toNat + 1 := by omega
        refine XW.sub (ls' := [(8, .int (t + Int32.ofInt 1)), (7, .int tu), (6, .int room), (5, .int y), (4, .int berths), (3, .int men), (2, .int home), (1, .int made), (0, .ref 75)]) (List.forall_mem_cons.mpr ⟨List.mem_of_getElem? (i := 0) rfl, (List.forall_mem_cons.mpr ⟨List.mem_of_getElem? (i := 2) rfl, (List.forall_mem_cons.mpr ⟨List.mem_of_getElem? (i := 3) rfl, (List.forall_mem_cons.mpr ⟨List.mem_of_getElem? (i := 4) rfl, (List.forall_mem_cons.mpr ⟨List.mem_of_getElem? (i := 5) rfl, (List.forall_mem_cons.mpr ⟨List.mem_of_getElem? (i := 6) rfl, (List.forall_mem_cons.mpr ⟨List.mem_of_getElem? (i := 7) rfl, (List.forall_mem_cons.mpr ⟨List.mem_of_getElem? (i := 8) rfl, (List.forall_mem_cons.mpr ⟨List.mem_of_getElem? (i := 9) rfl, (fun _ h => absurd h List.not_mem_nil)⟩)⟩)⟩)⟩)⟩)⟩)⟩)⟩)⟩) ?_
        have kF : ∀ q k, inm mdCh q k = false → I20 q k = Jb q k := by
          intro q k hq
          by_cases e : q = 78 ∧ k = t.toInt.toNat
          · rw [e.1, e.2, ← tn, eI20, up2_eq, Int32.sub_add_cancel]
            exact ew.symm.trans (hkp 78 _ rfl)
          · rw [eI20, up2_ne (fun z => e ⟨z.1, by exact z.2⟩), (show IQ17 q k = I12 q k from hIQ17 q k hq)]
            exact kI q k (fun z => by rw [z] at hq; cases hq) e hq
        have k8 : ∀ k, k < made.toInt.toNat → I20 81 k = Jb 81 k := by
          intro k hk
          rw [eI20, up2_ne (fun z => by cases z.1), (show IQ17 81 k = I12 81 k from hPQ17 k (by rw [f1]; omega)), eI12, up2_ne (fun z => by cases z.1), eI6, up2_ne (fun z => by have := z.2; omega)]
          exact hk81 k hk
        have hw0 : 0 < (vxC J I0 dd ma.toInt.toNat).1 t.toInt.toNat := by rw [hxw]; omega
        have eg : (yyG ma.toInt.toNat mc.toInt.toNat (vRow J 55 76) (vRow J 56 76) dd (vxC J I0 dd ma.toInt.toNat) s) t.toInt.toNat = mn.toInt + yyW ma.toInt.toNat mc.toInt.toNat (vRow J 55 76) (vRow J 56 76) dd (vxC J I12 dd ma.toInt.toNat) := by rw [gx, egy]; exact if_pos hw0
        have ehh : (yyH ma.toInt.toNat mc.toInt.toNat (vRow J 55 76) (vRow J 56 76) dd (vxC J I0 dd ma.toInt.toNat) s) t.toInt.toNat = (t.toInt.toNat : Int) :: yyL ma.toInt.toNat mc.toInt.toNat (vRow J 55 76) (vRow J 56 76) dd (vxC J I12 dd ma.toInt.toNat) := by rw [gx, egy]; rfl
        have hWn := (yyW_rng (a := ma.toInt.toNat) (c := mc.toInt.toNat) (B := (vRow J 55 76)) (P := (vRow J 56 76)) (d := dd) (by omega) (fun _ => vRow_ge) _ (vxC J I12 dd ma.toInt.toNat) (Nat.le_refl _) (fun k _ => (dyC_c hdd gd k).1) (dyC_w gd)).1
        have bI : bsC I20 = bsC IQ17 := bsC_congr (by rw [eI20, up2_ne (fun z => by cases z.1)]) (by rw [eI20, up2_ne (fun z => by cases z.1)]) (fun k => by rw [eI20, up2_ne (fun z => by cases z.1)])
        have bJ : bsC I12 = bsC I := bsC_congr (by rw [eI12, up2_ne (fun z => by cases z.1), eI6, up2_ne (fun z => by cases z.1)]) (by rw [eI12, up2_ne (fun z => by cases z.1), eI6, up2_ne (fun z => by cases z.1)]) (fun k => by rw [eI12, up2_ne (fun z => by cases z.1), eI6, up2_ne (fun z => by cases z.1)])
        have m1n : (made + 1).toInt.toNat = made.toInt.toNat + 1 := by omega
        have v81 : I12 81 made.toInt.toNat = t := by rw [← mdn, eI12, up2_ne (fun z => by cases z.1), eI6]; exact up2_eq
        have er : rwL I12 81 (made + 1).toInt.toNat = rwL Jb 81 made.toInt.toNat ++ [(t.toInt.toNat : Int)] := by
          rw [m1n, rwL_succ, v81, rwL_congr (I := I12) (J := Jb) (q := 81) (q' := 81) (fun k hk => by rw [eI12, up2_ne (fun z => by cases z.1), eI6, up2_ne (fun z => by have := z.2; omega)]; exact hk81 k hk)]
          have : t.toInt = (t.toInt.toNat : Int) := by omega
          rw [← this]
        refine ih (t + Int32.ofInt 1) (by omega) (by omega) (by omega) hwI20 hfI20 kF k8 ?_
        have hZ : bsC IQ17 = upY (yyW ma.toInt.toNat mc.toInt.toNat (vRow J 55 76) (vRow J 56 76) dd (vxC J I12 dd ma.toInt.toNat)) (yyL ma.toInt.toNat mc.toInt.toNat (vRow J 55 76) (vRow J 56 76) dd (vxC J I12 dd ma.toInt.toNat)) (home + mn).toInt (rwL I12 81 (made + 1).toInt.toNat) (bsC I12) := hZQ17
        rw [bI, hZ, bJ, er, f2, upY_shift hWn (by omega), ← eg, ← ehh, hz2, en]
        exact upY_mp
theorem yySome_yes {W : Nat → Int} {n : Nat} (h : ∀ p, p < n → 0 ≤ W p) (t : ¬ yyT W n = 0) : yySome W n = true := by
  cases q : yySome W n with
  | true => rfl
  | false =>
    exfalso
    refine t (yyT_zero (fun p hp => ?_))
    have h0 := h p hp
    by_cases c : 0 < W p
    · exfalso
      have := yySome_iff.mpr ⟨p, hp, c⟩
      rw [q] at this
      cases this
    · omega
theorem fr_rng {J I : Nat → Nat → Int32} {ma mc : Int32} {dd : Int} {made home men berths : Int32} {k : Nat} (hS : stC J ma mc) (hdd : 0 ≤ dd) (hD : dyC J I ma mc dd made home men berths) (hk : (k : Int) < ma.toInt) : 0 ≤ (I 80 k).toInt ∧ (I 80 k).toInt ≤ 180 := by
  have e := hD.1 k hk
  have hb := (hS.2.2.2 k hk).2.2
  have hP : vRow J 56 76 k = (J 56 (J 76 k).toNatClampNeg).toInt := vRow_of hb.1
  have hM := vMx_rng (d := dd) (p := vRow J 56 76 k) hdd (by have := vRow_ge (J := J) (q := 56) (t := 76) (k := k); omega)
  have a1 := Int.mul_nonneg (a := 2 * vRow J 56 76 k) (b := vMx dd (vRow J 56 76 k) - (I 79 k).toInt) (by omega) (by omega)
  have a2 : 2 * vRow J 56 76 k * (vMx dd (vRow J 56 76 k) - (I 79 k).toInt) ≤ 60 * 3 := Int.mul_le_mul (by omega) (by omega) (by omega) (by decide)
  omega
theorem cho_go {d zz : Nat} {sh : List mE} {I : Nat → Nat → Int32} {L : Nat → Nat → Int64} {R : Nat → Nat → Option Nat} {J : Nat → Nat → Int32} {ma mc made home men berths y : Int32} {dd : Int} {s : Nat} (hdd : 0 ≤ dd) (hS : stC J ma mc) (hw : wOK (mkT vV []) (wE sh R) (sh, I, L, R)) (hf : fresh (sh, I, L, R)) (hkp : ∀ q k, inm mdCx q k = false → I q k = J q k) (hD : dyC J I ma mc dd made home men berths) (hzz : yyNu (vxC J I dd ma.toInt.toNat) ma.toInt.toNat < (zz : Int) + 1) (ihz  : ∀ {I : Nat → Nat → Int32} {L : Nat → Nat → Int64} (made home men berths : Int32), wOK (mkT vV []) (wE sh R) (sh, I, L, R) → fresh (sh, I, L, R) → (∀ q k, inm mdCx q k = false → I q k = J q k) → dyC J I ma mc dd made home men berths → yyNu (vxC J I dd ma.toInt.toNat) ma.toInt.toNat < (zz : Int) → Tc 186 (d + 2 + zz) 0 0 [.ref 75, .int made, .int home, .int men, .int berths] (sh, I, L, R) (QCh sh R J dd ma.toInt.toNat mc.toInt.toNat I made home)) (hs : yyChs ma.toInt.toNat mc.toInt.toNat (vRow J 56 76) dd (vxC J I dd ma.toInt.toNat) = some s) (hs2 : y.toInt = (s : Int)) : XW 186 mr_186 none (d + 2 + zz + 1) 0 0 (QCh sh R J dd ma.toInt.toNat mc.toInt.toNat I made home) (62, [(5, .int y), (4, .int berths), (3, .int men), (2, .int home), (1, .int made), (0, .ref 75)], [], (sh, I, L, R)) := by
  have c53 : sh[53]? = some (.inr 7) := hw.1 53 _ rfl
  have c75 : sh[75]? = some (.inr 9) := hw.1 75 _ rfl
  have c76 : sh[76]? = some (.inl (.int, 3)) := hw.1 76 _ rfl
  have c79 : sh[79]? = some (.inl (.int, 3)) := hw.1 79 _ rfl
  have c80 : sh[80]? = some (.inl (.int, 3)) := hw.1 80 _ rfl
  have r75_1 : R 75 1 = some 53 := hw.2.1 75 1 _ rfl
  have r75_4 : R 75 4 = some 76 := hw.2.1 75 4 _ rfl
  have r75_7 : R 75 7 = some 79 := hw.2.1 75 7 _ rfl
  have r75_8 : R 75 8 = some 80 := hw.2.1 75 8 _ rfl
  have z0 : (0 : Int32).toInt = 0 := rfl
  have z1 : (1 : Int32).toInt = 1 := rfl
  have z2 : (2 : Int32).toInt = 2 := rfl
  obtain ⟨⟨hc2, hc3⟩, ha, hc', hS4⟩ := id hS
  obtain ⟨d1, d2, d3, d4, d5, d6⟩ := id hD
  obtain ⟨sv, esv⟩ : ∃ z : Int32, I 76 (y).toNatClampNeg = z := ⟨_, rfl⟩
  obtain ⟨lf, elf⟩ : ∃ z : Int32, I 79 (y).toNatClampNeg = z := ⟨_, rfl⟩
  obtain ⟨fr, efr⟩ : ∃ z : Int32, I 80 (y).toNatClampNeg = z := ⟨_, rfl⟩
  obtain ⟨q1, q2, -⟩ := yyChs_some hs
  have ey : (y).toNatClampNeg = s := by show y.toInt.toNat = s; omega
  have hbs := hS4 s (by omega)
  have esj : sv = J 76 s := by rw [← esv, ey]; exact hkp 76 s rfl
  have dS := d1 s (by omega)
  have hfr0 := fr_rng (dd := dd) (k := s) hS hdd hD (by omega)
  have hMr := vMx_rng (d := dd) (p := vRow J 56 76 s) hdd (by have := vRow_ge (J := J) (q := 56) (t := 76) (k := s); omega)
  have hPs : vRow J 56 76 s = (J 56 (J 76 s).toNatClampNeg).toInt := vRow_of hbs.2.2.1
  have hlf : lf.toInt = (I 79 s).toInt := by rw [← elf, ey]
  have hfr : fr.toInt = (I 80 s).toInt := by rw [← efr, ey]
  refine XW.fam (S' := (63, [(5, .int y), (4, .int berths), (3, .int men), (2, .int home), (1, .int made), (0, .ref 75)], [.ref 75], (sh, I, L, R))) (M := mr_186) rfl (show mcode 186 62 = some (62, .aload_n 0, 1, 0, 0, 0, _) from rfl) (Or.inl ⟨.ref 75, rfl, rfl⟩) ?_
  refine XW.fam (S' := (66, [(5, .int y), (4, .int berths), (3, .int men), (2, .int home), (1, .int made), (0, .ref 75)], [.ref 53], (sh, I, L, R))) (M := mr_186) rfl (show mcode 186 63 = some (63, .getfield 37, 3, 9, 1, 0, _) from rfl) (Or.inr (Or.inr (Or.inr (Or.inr (Or.inr (Or.inr (Or.inr (Or.inl ⟨_, _, rfl, fl_ld c75 r75_1 (by decide) (by decide), rfl⟩)))))))) ?_
  refine XW.fam (S' := (67, [(5, .int y), (4, .int berths), (3, .int men), (2, .int home), (1, .int made), (0, .ref 75)], [.ref 75, .ref 53], (sh, I, L, R))) (M := mr_186) rfl (show mcode 186 66 = some (66, .aload_n 0, 1, 0, 0, 0, _) from rfl) (Or.inl ⟨.ref 75, rfl, rfl⟩) ?_
  refine XW.fam (S' := (70, [(5, .int y), (4, .int berths), (3, .int men), (2, .int home), (1, .int made), (0, .ref 75)], [.ref 76, .ref 53], (sh, I, L, R))) (M := mr_186) rfl (show mcode 186 67 = some (67, .getfield 11, 3, 9, 4, 0, _) from rfl) (Or.inr (Or.inr (Or.inr (Or.inr (Or.inr (Or.inr (Or.inr (Or.inl ⟨_, _, rfl, fl_ld c75 r75_4 (by decide) (by decide), rfl⟩)))))))) ?_
  refine XW.fam (S' := (72, [(5, .int y), (4, .int berths), (3, .int men), (2, .int home), (1, .int made), (0, .ref 75)], [.int y, .ref 76, .ref 53], (sh, I, L, R))) (M := mr_186) rfl (show mcode 186 70 = some (70, .iload 5, 2, 0, 0, 0, _) from rfl) (Or.inl ⟨.int y, rfl, rfl⟩) ?_
  have hin1 : inR y 3 = true := inR_of (by omega) (by omega)
  refine XW.fam (S' := (73, [(5, .int y), (4, .int berths), (3, .int men), (2, .int home), (1, .int made), (0, .ref 75)], [.int (I 76 (y).toNatClampNeg), .ref 53], (sh, I, L, R))) (M := mr_186) rfl (show mcode 186 72 = some (72, .iaload, 1, 0, 0, 0, _) from rfl) (Or.inr (Or.inr (Or.inl ⟨_, lda_i c76 hin1, rfl⟩))) ?_
  rw [esv]
  refine XW.call (d' := d + 1) (mc' := 0) (ms' := 0) (av := [.ref 53, .int sv]) (rest := []) (M := mr_186) (Ma := mr_185) rfl (show mcode 186 73 = some (73, .invokevirtual 86, 3, 185, 0, 0, _) from rfl) rfl (by decide) (by decide) ⟨rfl, 53, _, rfl, c53⟩ rfl rfl (show 0 ≤ 8 by decide) (tc_bo (d := d) hw (by rw [esj, hkp 53 3 rfl]; exact hbs.1)) (by omega) (Nat.zero_le _) (Nat.zero_le _) (fun rQ2 wQ2 Q2 => ?_)
  obtain ⟨rfl, rfl⟩ := Q2
  obtain ⟨room, eroom⟩ : ∃ z : Int32, I 55 sv.toNatClampNeg = z := ⟨_, rfl⟩
  rw [eroom]
  have hroom : room.toInt = vRow J 55 76 s := by
    rw [← eroom, esj, hkp 55 _ rfl]
    exact (vRow_of hbs.2.1.1).symm
  refine XW.fam (S' := (78, [(6, .int room), (5, .int y), (4, .int berths), (3, .int men), (2, .int home), (1, .int made), (0, .ref 75)], [], (sh, I, L, R))) (M := mr_186) rfl (show mcode 186 76 = some (76, .istore 6, 2, 0, 0, 0, _) from rfl) (Or.inr (Or.inr (Or.inr (Or.inr (Or.inr (Or.inr (Or.inl ⟨_, [], _, rfl, rfl, rfl⟩))))))) ?_
  refine XW.fam (S' := (79, [(6, .int room), (5, .int y), (4, .int berths), (3, .int men), (2, .int home), (1, .int made), (0, .ref 75)], [.int 2], (sh, I, L, R))) (M := mr_186) rfl (show mcode 186 78 = some (78, .iconst 2, 1, 0, 0, 0, _) from rfl) (Or.inl ⟨.int 2, rfl, rfl⟩) ?_
  refine XW.fam (S' := (80, [(6, .int room), (5, .int y), (4, .int berths), (3, .int men), (2, .int home), (1, .int made), (0, .ref 75)], [.ref 75, .int 2], (sh, I, L, R))) (M := mr_186) rfl (show mcode 186 79 = some (79, .aload_n 0, 1, 0, 0, 0, _) from rfl) (Or.inl ⟨.ref 75, rfl, rfl⟩) ?_
  refine XW.fam (S' := (83, [(6, .int room), (5, .int y), (4, .int berths), (3, .int men), (2, .int home), (1, .int made), (0, .ref 75)], [.ref 53, .int 2], (sh, I, L, R))) (M := mr_186) rfl (show mcode 186 80 = some (80, .getfield 37, 3, 9, 1, 0, _) from rfl) (Or.inr (Or.inr (Or.inr (Or.inr (Or.inr (Or.inr (Or.inr (Or.inl ⟨_, _, rfl, fl_ld c75 r75_1 (by decide) (by decide), rfl⟩)))))))) ?_
  refine XW.fam (S' := (84, [(6, .int room), (5, .int y), (4, .int berths), (3, .int men), (2, .int home), (1, .int made), (0, .ref 75)], [.ref 75, .ref 53, .int 2], (sh, I, L, R))) (M := mr_186) rfl (show mcode 186 83 = some (83, .aload_n 0, 1, 0, 0, 0, _) from rfl) (Or.inl ⟨.ref 75, rfl, rfl⟩) ?_
  refine XW.fam (S' := (87, [(6, .int room), (5, .int y), (4, .int berths), (3, .int men), (2, .int home), (1, .int made), (0, .ref 75)], [.ref 76, .ref 53, .int 2], (sh, I, L, R))) (M := mr_186) rfl (show mcode 186 84 = some (84, .getfield 11, 3, 9, 4, 0, _) from rfl) (Or.inr (Or.inr (Or.inr (Or.inr (Or.inr (Or.inr (Or.inr (Or.inl ⟨_, _, rfl, fl_ld c75 r75_4 (by decide) (by decide), rfl⟩)))))))) ?_
  refine XW.fam (S' := (89, [(6, .int room), (5, .int y), (4, .int berths), (3, .int men), (2, .int home), (1, .int made), (0, .ref 75)], [.int y, .ref 76, .ref 53, .int 2], (sh, I, L, R))) (M := mr_186) rfl (show mcode 186 87 = some (87, .iload 5, 2, 0, 0, 0, _) from rfl) (Or.inl ⟨.int y, rfl, rfl⟩) ?_
  have hin3 : inR y 3 = true := inR_of (by omega) (by omega)
  refine XW.fam (S' := (90, [(6, .int room), (5, .int y), (4, .int berths), (3, .int men), (2, .int home), (1, .int made), (0, .ref 75)], [.int (I 76 (y).toNatClampNeg), .ref 53, .int 2], (sh, I, L, R))) (M := mr_186) rfl (show mcode 186 89 = some (89, .iaload, 1, 0, 0, 0, _) from rfl) (Or.inr (Or.inr (Or.inl ⟨_, lda_i c76 hin3, rfl⟩))) ?_
  rw [esv]
  refine XW.call (d' := d + 1) (mc' := 0) (ms' := 0) (av := [.ref 53, .int sv]) (rest := [.int 2]) (M := mr_186) (Ma := mr_184) rfl (show mcode 186 90 = some (90, .invokevirtual 75, 3, 184, 0, 0, _) from rfl) rfl (by decide) (by decide) ⟨rfl, 53, _, rfl, c53⟩ rfl rfl (show 1 ≤ 8 by decide) (tc_po (d := d) hw (by rw [esj, hkp 53 3 rfl]; exact hbs.1)) (by omega) (Nat.zero_le _) (Nat.zero_le _) (fun rQ4 wQ4 Q4 => ?_)
  obtain ⟨rfl, rfl⟩ := Q4
  obtain ⟨pas, epas⟩ : ∃ z : Int32, I 56 sv.toNatClampNeg = z := ⟨_, rfl⟩
  rw [epas]
  have hpas : pas.toInt = vRow J 56 76 s := by
    rw [← epas, esj, hkp 56 _ rfl]
    exact (vRow_of hbs.2.2.1).symm
  refine XW.fam (S' := (94, [(6, .int room), (5, .int y), (4, .int berths), (3, .int men), (2, .int home), (1, .int made), (0, .ref 75)], [.int (2 * pas)], (sh, I, L, R))) (M := mr_186) rfl (show mcode 186 93 = some (93, .imul, 1, 0, 0, 0, _) from rfl) (Or.inr (Or.inr (Or.inr (Or.inr (Or.inr (Or.inl ⟨_, rfl, rfl⟩)))))) ?_
  refine XW.fam (S' := (96, [(7, .int (2 * pas)), (6, .int room), (5, .int y), (4, .int berths), (3, .int men), (2, .int home), (1, .int made), (0, .ref 75)], [], (sh, I, L, R))) (M := mr_186) rfl (show mcode 186 94 = some (94, .istore 7, 2, 0, 0, 0, _) from rfl) (Or.inr (Or.inr (Or.inr (Or.inr (Or.inr (Or.inr (Or.inl ⟨_, [], _, rfl, rfl, rfl⟩))))))) ?_
  obtain ⟨tu, etu⟩ : ∃ z : Int32, 2 * pas = z := ⟨_, rfl⟩
  rw [etu]
  have htu0 : tu.toInt = 2 * pas.toInt := by
    rw [← etu]
    exact mul_i (a := 2) (b := pas) (by show lo32 ≤ 2 * pas.toInt; unfold lo32; omega) (by show 2 * pas.toInt ≤ hi32; unfold hi32; omega)
  have htu : tu.toInt = 2 * vRow J 56 76 s := by rw [htu0, hpas]
  refine XW.fam (S' := (97, [(7, .int tu), (6, .int room), (5, .int y), (4, .int berths), (3, .int men), (2, .int home), (1, .int made), (0, .ref 75)], [.ref 75], (sh, I, L, R))) (M := mr_186) rfl (show mcode 186 96 = some (96, .aload_n 0, 1, 0, 0, 0, _) from rfl) (Or.inl ⟨.ref 75, rfl, rfl⟩) ?_
  refine XW.fam (S' := (100, [(7, .int tu), (6, .int room), (5, .int y), (4, .int berths), (3, .int men), (2, .int home), (1, .int made), (0, .ref 75)], [.ref 79], (sh, I, L, R))) (M := mr_186) rfl (show mcode 186 97 = some (97, .getfield 21, 3, 9, 7, 0, _) from rfl) (Or.inr (Or.inr (Or.inr (Or.inr (Or.inr (Or.inr (Or.inr (Or.inl ⟨_, _, rfl, fl_ld c75 r75_7 (by decide) (by decide), rfl⟩)))))))) ?_
  refine XW.fam (S' := (102, [(7, .int tu), (6, .int room), (5, .int y), (4, .int berths), (3, .int men), (2, .int home), (1, .int made), (0, .ref 75)], [.int y, .ref 79], (sh, I, L, R))) (M := mr_186) rfl (show mcode 186 100 = some (100, .iload 5, 2, 0, 0, 0, _) from rfl) (Or.inl ⟨.int y, rfl, rfl⟩) ?_
  refine XW.fam (S' := (103, [(7, .int tu), (6, .int room), (5, .int y), (4, .int berths), (3, .int men), (2, .int home), (1, .int made), (0, .ref 75)], [.int y, .ref 79, .int y, .ref 79], (sh, I, L, R))) (M := mr_186) rfl (show mcode 186 102 = some (102, .dup2, 1, 0, 0, 0, _) from rfl) (Or.inr (Or.inr (Or.inr (Or.inr (Or.inr (Or.inl ⟨_, rfl, rfl⟩)))))) ?_
  have hin5 : inR y 3 = true := inR_of (by omega) (by omega)
  refine XW.fam (S' := (104, [(7, .int tu), (6, .int room), (5, .int y), (4, .int berths), (3, .int men), (2, .int home), (1, .int made), (0, .ref 75)], [.int (I 79 (y).toNatClampNeg), .int y, .ref 79], (sh, I, L, R))) (M := mr_186) rfl (show mcode 186 103 = some (103, .iaload, 1, 0, 0, 0, _) from rfl) (Or.inr (Or.inr (Or.inl ⟨_, lda_i c79 hin5, rfl⟩))) ?_
  rw [elf]
  refine XW.fam (S' := (105, [(7, .int tu), (6, .int room), (5, .int y), (4, .int berths), (3, .int men), (2, .int home), (1, .int made), (0, .ref 75)], [.int 1, .int lf, .int y, .ref 79], (sh, I, L, R))) (M := mr_186) rfl (show mcode 186 104 = some (104, .iconst 1, 1, 0, 0, 0, _) from rfl) (Or.inl ⟨.int 1, rfl, rfl⟩) ?_
  refine XW.fam (S' := (106, [(7, .int tu), (6, .int room), (5, .int y), (4, .int berths), (3, .int men), (2, .int home), (1, .int made), (0, .ref 75)], [.int (lf - 1), .int y, .ref 79], (sh, I, L, R))) (M := mr_186) rfl (show mcode 186 105 = some (105, .isub, 1, 0, 0, 0, _) from rfl) (Or.inr (Or.inr (Or.inr (Or.inr (Or.inr (Or.inl ⟨_, rfl, rfl⟩)))))) ?_
  have hin6 : inR y 3 = true := inR_of (by omega) (by omega)
  obtain ⟨I7, eI7⟩ : ∃ X, X = up2 I 79 (y).toNatClampNeg (lf - 1) := ⟨_, rfl⟩
  refine XW.fam (S' := (107, [(7, .int tu), (6, .int room), (5, .int y), (4, .int berths), (3, .int men), (2, .int home), (1, .int made), (0, .ref 75)], [], (sh, I7, L, R))) (M := mr_186) rfl (show mcode 186 106 = some (106, .iastore, 1, 0, 0, 0, _) from rfl) (Or.inr (Or.inr (Or.inr (Or.inl ⟨_, _, by rw [eI7]; exact sta_i c79 hin6, rfl⟩)))) ?_
  have xb := i32b ((lf - 1))
  unfold lo32 hi32 at xb
  have hwI7 : wOK (mkT vV []) (wE sh R) (sh, I7, L, R) := by rw [eI7]; exact wOK_u2 (q := 79) (k := (y).toNatClampNeg) (x := (lf - 1)) wE_put hw rfl (by show ((-2147483648) : Int) ≤ _; omega) (by show _ ≤ (2147483647 : Int); omega)
  have hfI7 : fresh (sh, I7, L, R) := by rw [eI7]; exact fresh_I hf c79
  have v8 : I7 76 (y).toNatClampNeg = sv := by rw [eI7, up2_ne (fun e => by cases e.1)]; exact esv
  have v10 : I7 80 (y).toNatClampNeg = fr := by rw [eI7, up2_ne (fun e => by cases e.1)]; exact efr
  have v11 : I7 79 (y).toNatClampNeg = (lf - 1) := by rw [eI7]; exact up2_eq
  refine XW.fam (S' := (108, [(7, .int tu), (6, .int room), (5, .int y), (4, .int berths), (3, .int men), (2, .int home), (1, .int made), (0, .ref 75)], [.ref 75], (sh, I7, L, R))) (M := mr_186) rfl (show mcode 186 107 = some (107, .aload_n 0, 1, 0, 0, 0, _) from rfl) (Or.inl ⟨.ref 75, rfl, rfl⟩) ?_
  refine XW.fam (S' := (111, [(7, .int tu), (6, .int room), (5, .int y), (4, .int berths), (3, .int men), (2, .int home), (1, .int made), (0, .ref 75)], [.ref 80], (sh, I7, L, R))) (M := mr_186) rfl (show mcode 186 108 = some (108, .getfield 24, 3, 9, 8, 0, _) from rfl) (Or.inr (Or.inr (Or.inr (Or.inr (Or.inr (Or.inr (Or.inr (Or.inl ⟨_, _, rfl, fl_ld c75 r75_8 (by decide) (by decide), rfl⟩)))))))) ?_
  refine XW.fam (S' := (113, [(7, .int tu), (6, .int room), (5, .int y), (4, .int berths), (3, .int men), (2, .int home), (1, .int made), (0, .ref 75)], [.int y, .ref 80], (sh, I7, L, R))) (M := mr_186) rfl (show mcode 186 111 = some (111, .iload 5, 2, 0, 0, 0, _) from rfl) (Or.inl ⟨.int y, rfl, rfl⟩) ?_
  refine XW.fam (S' := (114, [(7, .int tu), (6, .int room), (5, .int y), (4, .int berths), (3, .int men), (2, .int home), (1, .int made), (0, .ref 75)], [.int y, .ref 80, .int y, .ref 80], (sh, I7, L, R))) (M := mr_186) rfl (show mcode 186 113 = some (113, .dup2, 1, 0, 0, 0, _) from rfl) (Or.inr (Or.inr (Or.inr (Or.inr (Or.inr (Or.inl ⟨_, rfl, rfl⟩)))))) ?_
  have hin12 : inR y 3 = true := inR_of (by omega) (by omega)
  refine XW.fam (S' := (115, [(7, .int tu), (6, .int room), (5, .int y), (4, .int berths), (3, .int men), (2, .int home), (1, .int made), (0, .ref 75)], [.int (I7 80 (y).toNatClampNeg), .int y, .ref 80], (sh, I7, L, R))) (M := mr_186) rfl (show mcode 186 114 = some (114, .iaload, 1, 0, 0, 0, _) from rfl) (Or.inr (Or.inr (Or.inl ⟨_, lda_i c80 hin12, rfl⟩))) ?_
  rw [v10]
  refine XW.fam (S' := (117, [(7, .int tu), (6, .int room), (5, .int y), (4, .int berths), (3, .int men), (2, .int home), (1, .int made), (0, .ref 75)], [.int tu, .int fr, .int y, .ref 80], (sh, I7, L, R))) (M := mr_186) rfl (show mcode 186 115 = some (115, .iload 7, 2, 0, 0, 0, _) from rfl) (Or.inl ⟨.int tu, rfl, rfl⟩) ?_
  refine XW.fam (S' := (118, [(7, .int tu), (6, .int room), (5, .int y), (4, .int berths), (3, .int men), (2, .int home), (1, .int made), (0, .ref 75)], [.int (fr + tu), .int y, .ref 80], (sh, I7, L, R))) (M := mr_186) rfl (show mcode 186 117 = some (117, .iadd, 1, 0, 0, 0, _) from rfl) (Or.inr (Or.inr (Or.inr (Or.inr (Or.inr (Or.inl ⟨_, rfl, rfl⟩)))))) ?_
  have hin13 : inR y 3 = true := inR_of (by omega) (by omega)
  obtain ⟨I14, eI14⟩ : ∃ X, X = up2 I7 80 (y).toNatClampNeg (fr + tu) := ⟨_, rfl⟩
  refine XW.fam (S' := (119, [(7, .int tu), (6, .int room), (5, .int y), (4, .int berths), (3, .int men), (2, .int home), (1, .int made), (0, .ref 75)], [], (sh, I14, L, R))) (M := mr_186) rfl (show mcode 186 118 = some (118, .iastore, 1, 0, 0, 0, _) from rfl) (Or.inr (Or.inr (Or.inr (Or.inl ⟨_, _, by rw [eI14]; exact sta_i c80 hin13, rfl⟩)))) ?_
  have xb := i32b ((fr + tu))
  unfold lo32 hi32 at xb
  have hwI14 : wOK (mkT vV []) (wE sh R) (sh, I14, L, R) := by rw [eI14]; exact wOK_u2 (q := 80) (k := (y).toNatClampNeg) (x := (fr + tu)) wE_put hwI7 rfl (by show ((-2147483648) : Int) ≤ _; omega) (by show _ ≤ (2147483647 : Int); omega)
  have hfI14 : fresh (sh, I14, L, R) := by rw [eI14]; exact fresh_I hfI7 c80
  have v15 : I14 76 (y).toNatClampNeg = sv := by rw [eI14, up2_ne (fun e => by cases e.1)]; exact v8
  have v17 : I14 79 (y).toNatClampNeg = (lf - 1) := by rw [eI14, up2_ne (fun e => by cases e.1)]; exact v11
  have v18 : I14 80 (y).toNatClampNeg = (fr + tu) := by rw [eI14]; exact up2_eq
  refine XW.fam (S' := (120, [(7, .int tu), (6, .int room), (5, .int y), (4, .int berths), (3, .int men), (2, .int home), (1, .int made), (0, .ref 75)], [.int 0], (sh, I14, L, R))) (M := mr_186) rfl (show mcode 186 119 = some (119, .iconst 0, 1, 0, 0, 0, _) from rfl) (Or.inl ⟨.int 0, rfl, rfl⟩) ?_
  refine XW.fam (S' := (122, [(8, .int 0), (7, .int tu), (6, .int room), (5, .int y), (4, .int berths), (3, .int men), (2, .int home), (1, .int made), (0, .ref 75)], [], (sh, I14, L, R))) (M := mr_186) rfl (show mcode 186 120 = some (120, .istore 8, 2, 0, 0, 0, _) from rfl) (Or.inr (Or.inr (Or.inr (Or.inr (Or.inr (Or.inr (Or.inl ⟨_, [], _, rfl, rfl, rfl⟩))))))) ?_
  refine XW.sub (ls' := [(8, .int 0), (7, .int tu), (6, .int room), (5, .int y), (4, .int berths), (3, .int men), (2, .int home), (1, .int made), (0, .ref 75)]) (List.forall_mem_cons.mpr ⟨List.mem_of_getElem? (i := 0) rfl, (List.forall_mem_cons.mpr ⟨List.mem_of_getElem? (i := 1) rfl, (List.forall_mem_cons.mpr ⟨List.mem_of_getElem? (i := 2) rfl, (List.forall_mem_cons.mpr ⟨List.mem_of_getElem? (i := 3) rfl, (List.forall_mem_cons.mpr ⟨List.mem_of_getElem? (i := 4) rfl, (List.forall_mem_cons.mpr ⟨List.mem_of_getElem? (i := 5) rfl, (List.forall_mem_cons.mpr ⟨List.mem_of_getElem? (i := 6) rfl, (List.forall_mem_cons.mpr ⟨List.mem_of_getElem? (i := 7) rfl, (List.forall_mem_cons.mpr ⟨List.mem_of_getElem? (i := 8) rfl, (fun _ h => absurd h List.not_mem_nil)⟩)⟩)⟩)⟩)⟩)⟩)⟩)⟩)⟩) ?_
  have el1 := sub1I (m := lf) (by omega) (by omega)
  have ef1 := sumS (a := fr) (b := tu) (by omega) (by omega)
  have b79 : I14 79 s = lf - 1 := by rw [← ey, eI14, up2_ne (fun e => by cases e.1), eI7, up2_eq]
  have b80 : I14 80 s = fr + tu := by rw [← ey, eI14, up2_eq]
  have hJb : ∀ q k, ¬ (q = 79 ∧ k = s) → ¬ (q = 80 ∧ k = s) → I14 q k = I q k := by
    intro q k a1 a2
    rw [eI14, up2_ne (fun e => a2 ⟨e.1, by rw [e.2, ey]⟩), eI7, up2_ne (fun e => a1 ⟨e.1, by rw [e.2, ey]⟩)]
  refine cho_lp (d := d) (zz := zz) (J := J) (I0 := I) (Jb := I14) (s := s) (p0 := bsC I) hdd hS hD hs (by omega) hkp hJb (by rw [b79, el1, hlf]) (by rw [b80, ef1, hfr, htu]) ihz hroom (fun {I3 L3} hw3 hf3 hk3 hk83 hz3 t => ?_) 4 0 (by decide) (by omega) (by omega) hwI14 hfI14 (fun _ _ _ => rfl) (fun _ _ => rfl) ?_
  · have v79 : I3 79 (y).toNatClampNeg = lf - 1 := by rw [ey]; exact (hk3 79 s rfl).trans b79
    have v80 : I3 80 (y).toNatClampNeg = fr + tu := by rw [ey]; exact (hk3 80 s rfl).trans b80
    refine XW.fam (S' := (209, [(8, .int t), (7, .int tu), (6, .int room), (5, .int y), (4, .int berths), (3, .int men), (2, .int home), (1, .int made), (0, .ref 75)], [.ref 75], (sh, I3, L3, R))) (M := mr_186) rfl (show mcode 186 208 = some (208, .aload_n 0, 1, 0, 0, 0, _) from rfl) (Or.inl ⟨.ref 75, rfl, rfl⟩) ?_
    refine XW.fam (S' := (212, [(8, .int t), (7, .int tu), (6, .int room), (5, .int y), (4, .int berths), (3, .int men), (2, .int home), (1, .int made), (0, .ref 75)], [.ref 79], (sh, I3, L3, R))) (M := mr_186) rfl (show mcode 186 209 = some (209, .getfield 21, 3, 9, 7, 0, _) from rfl) (Or.inr (Or.inr (Or.inr (Or.inr (Or.inr (Or.inr (Or.inr (Or.inl ⟨_, _, rfl, fl_ld c75 r75_7 (by decide) (by decide), rfl⟩)))))))) ?_
    refine XW.fam (S' := (214, [(8, .int t), (7, .int tu), (6, .int room), (5, .int y), (4, .int berths), (3, .int men), (2, .int home), (1, .int made), (0, .ref 75)], [.int y, .ref 79], (sh, I3, L3, R))) (M := mr_186) rfl (show mcode 186 212 = some (212, .iload 5, 2, 0, 0, 0, _) from rfl) (Or.inl ⟨.int y, rfl, rfl⟩) ?_
    refine XW.fam (S' := (215, [(8, .int t), (7, .int tu), (6, .int room), (5, .int y), (4, .int berths), (3, .int men), (2, .int home), (1, .int made), (0, .ref 75)], [.int y, .ref 79, .int y, .ref 79], (sh, I3, L3, R))) (M := mr_186) rfl (show mcode 186 214 = some (214, .dup2, 1, 0, 0, 0, _) from rfl) (Or.inr (Or.inr (Or.inr (Or.inr (Or.inr (Or.inl ⟨_, rfl, rfl⟩)))))) ?_
    have hin19 : inR y 3 = true := inR_of (by omega) (by omega)
    refine XW.fam (S' := (216, [(8, .int t), (7, .int tu), (6, .int room), (5, .int y), (4, .int berths), (3, .int men), (2, .int home), (1, .int made), (0, .ref 75)], [.int (I3 79 (y).toNatClampNeg), .int y, .ref 79], (sh, I3, L3, R))) (M := mr_186) rfl (show mcode 186 215 = some (215, .iaload, 1, 0, 0, 0, _) from rfl) (Or.inr (Or.inr (Or.inl ⟨_, lda_i c79 hin19, rfl⟩))) ?_
    rw [v79]
    refine XW.fam (S' := (217, [(8, .int t), (7, .int tu), (6, .int room), (5, .int y), (4, .int berths), (3, .int men), (2, .int home), (1, .int made), (0, .ref 75)], [.int 1, .int (lf - 1), .int y, .ref 79], (sh, I3, L3, R))) (M := mr_186) rfl (show mcode 186 216 = some (216, .iconst 1, 1, 0, 0, 0, _) from rfl) (Or.inl ⟨.int 1, rfl, rfl⟩) ?_
    refine XW.fam (S' := (218, [(8, .int t), (7, .int tu), (6, .int room), (5, .int y), (4, .int berths), (3, .int men), (2, .int home), (1, .int made), (0, .ref 75)], [.int ((lf - 1) + 1), .int y, .ref 79], (sh, I3, L3, R))) (M := mr_186) rfl (show mcode 186 217 = some (217, .iadd, 1, 0, 0, 0, _) from rfl) (Or.inr (Or.inr (Or.inr (Or.inr (Or.inr (Or.inl ⟨_, rfl, rfl⟩)))))) ?_
    have hin20 : inR y 3 = true := inR_of (by omega) (by omega)
    obtain ⟨I21, eI21⟩ : ∃ X, X = up2 I3 79 (y).toNatClampNeg ((lf - 1) + 1) := ⟨_, rfl⟩
    refine XW.fam (S' := (219, [(8, .int t), (7, .int tu), (6, .int room), (5, .int y), (4, .int berths), (3, .int men), (2, .int home), (1, .int made), (0, .ref 75)], [], (sh, I21, L3, R))) (M := mr_186) rfl (show mcode 186 218 = some (218, .iastore, 1, 0, 0, 0, _) from rfl) (Or.inr (Or.inr (Or.inr (Or.inl ⟨_, _, by rw [eI21]; exact sta_i c79 hin20, rfl⟩)))) ?_
    have xb := i32b (((lf - 1) + 1))
    unfold lo32 hi32 at xb
    have hwI21 : wOK (mkT vV []) (wE sh R) (sh, I21, L3, R) := by rw [eI21]; exact wOK_u2 (q := 79) (k := (y).toNatClampNeg) (x := ((lf - 1) + 1)) wE_put hw3 rfl (by show ((-2147483648) : Int) ≤ _; omega) (by show _ ≤ (2147483647 : Int); omega)
    have hfI21 : fresh (sh, I21, L3, R) := by rw [eI21]; exact fresh_I hf3 c79
    have v23 : I21 80 (y).toNatClampNeg = (fr + tu) := by rw [eI21, up2_ne (fun e => by cases e.1)]; exact v80
    have v24 : I21 79 (y).toNatClampNeg = ((lf - 1) + 1) := by rw [eI21]; exact up2_eq
    refine XW.fam (S' := (220, [(8, .int t), (7, .int tu), (6, .int room), (5, .int y), (4, .int berths), (3, .int men), (2, .int home), (1, .int made), (0, .ref 75)], [.ref 75], (sh, I21, L3, R))) (M := mr_186) rfl (show mcode 186 219 = some (219, .aload_n 0, 1, 0, 0, 0, _) from rfl) (Or.inl ⟨.ref 75, rfl, rfl⟩) ?_
    refine XW.fam (S' := (223, [(8, .int t), (7, .int tu), (6, .int room), (5, .int y), (4, .int berths), (3, .int men), (2, .int home), (1, .int made), (0, .ref 75)], [.ref 80], (sh, I21, L3, R))) (M := mr_186) rfl (show mcode 186 220 = some (220, .getfield 24, 3, 9, 8, 0, _) from rfl) (Or.inr (Or.inr (Or.inr (Or.inr (Or.inr (Or.inr (Or.inr (Or.inl ⟨_, _, rfl, fl_ld c75 r75_8 (by decide) (by decide), rfl⟩)))))))) ?_
    refine XW.fam (S' := (225, [(8, .int t), (7, .int tu), (6, .int room), (5, .int y), (4, .int berths), (3, .int men), (2, .int home), (1, .int made), (0, .ref 75)], [.int y, .ref 80], (sh, I21, L3, R))) (M := mr_186) rfl (show mcode 186 223 = some (223, .iload 5, 2, 0, 0, 0, _) from rfl) (Or.inl ⟨.int y, rfl, rfl⟩) ?_
    refine XW.fam (S' := (226, [(8, .int t), (7, .int tu), (6, .int room), (5, .int y), (4, .int berths), (3, .int men), (2, .int home), (1, .int made), (0, .ref 75)], [.int y, .ref 80, .int y, .ref 80], (sh, I21, L3, R))) (M := mr_186) rfl (show mcode 186 225 = some (225, .dup2, 1, 0, 0, 0, _) from rfl) (Or.inr (Or.inr (Or.inr (Or.inr (Or.inr (Or.inl ⟨_, rfl, rfl⟩)))))) ?_
    have hin25 : inR y 3 = true := inR_of (by omega) (by omega)
    refine XW.fam (S' := (227, [(8, .int t), (7, .int tu), (6, .int room), (5, .int y), (4, .int berths), (3, .int men), (2, .int home), (1, .int made), (0, .ref 75)], [.int (I21 80 (y).toNatClampNeg), .int y, .ref 80], (sh, I21, L3, R))) (M := mr_186) rfl (show mcode 186 226 = some (226, .iaload, 1, 0, 0, 0, _) from rfl) (Or.inr (Or.inr (Or.inl ⟨_, lda_i c80 hin25, rfl⟩))) ?_
    rw [v23]
    refine XW.fam (S' := (229, [(8, .int t), (7, .int tu), (6, .int room), (5, .int y), (4, .int berths), (3, .int men), (2, .int home), (1, .int made), (0, .ref 75)], [.int tu, .int (fr + tu), .int y, .ref 80], (sh, I21, L3, R))) (M := mr_186) rfl (show mcode 186 227 = some (227, .iload 7, 2, 0, 0, 0, _) from rfl) (Or.inl ⟨.int tu, rfl, rfl⟩) ?_
    refine XW.fam (S' := (230, [(8, .int t), (7, .int tu), (6, .int room), (5, .int y), (4, .int berths), (3, .int men), (2, .int home), (1, .int made), (0, .ref 75)], [.int ((fr + tu) - tu), .int y, .ref 80], (sh, I21, L3, R))) (M := mr_186) rfl (show mcode 186 229 = some (229, .isub, 1, 0, 0, 0, _) from rfl) (Or.inr (Or.inr (Or.inr (Or.inr (Or.inr (Or.inl ⟨_, rfl, rfl⟩)))))) ?_
    have hin26 : inR y 3 = true := inR_of (by omega) (by omega)
    obtain ⟨I27, eI27⟩ : ∃ X, X = up2 I21 80 (y).toNatClampNeg ((fr + tu) - tu) := ⟨_, rfl⟩
    refine XW.fam (S' := (231, [(8, .int t), (7, .int tu), (6, .int room), (5, .int y), (4, .int berths), (3, .int men), (2, .int home), (1, .int made), (0, .ref 75)], [], (sh, I27, L3, R))) (M := mr_186) rfl (show mcode 186 230 = some (230, .iastore, 1, 0, 0, 0, _) from rfl) (Or.inr (Or.inr (Or.inr (Or.inl ⟨_, _, by rw [eI27]; exact sta_i c80 hin26, rfl⟩)))) ?_
    have xb := i32b (((fr + tu) - tu))
    unfold lo32 hi32 at xb
    have hwI27 : wOK (mkT vV []) (wE sh R) (sh, I27, L3, R) := by rw [eI27]; exact wOK_u2 (q := 80) (k := (y).toNatClampNeg) (x := ((fr + tu) - tu)) wE_put hwI21 rfl (by show ((-2147483648) : Int) ≤ _; omega) (by show _ ≤ (2147483647 : Int); omega)
    have hfI27 : fresh (sh, I27, L3, R) := by rw [eI27]; exact fresh_I hfI21 c80
    have v29 : I27 79 (y).toNatClampNeg = ((lf - 1) + 1) := by rw [eI27, up2_ne (fun e => by cases e.1)]; exact v24
    have v30 : I27 80 (y).toNatClampNeg = ((fr + tu) - tu) := by rw [eI27]; exact up2_eq
    refine XW.ret (r := none) ⟨rfl, by decide +kernel⟩ ?_
    have k5 : ∀ q k, ¬ (q = 79 ∧ k = s) → ¬ (q = 80 ∧ k = s) → I27 q k = I3 q k := by
      intro q k a1 a2
      rw [eI27, up2_ne (fun e => a2 ⟨e.1, by rw [e.2, ey]⟩), eI21, up2_ne (fun e => a1 ⟨e.1, by rw [e.2, ey]⟩)]
    refine ⟨rfl, hfI27, hwI27, fun q k hq => ?_, fun k hk => ?_, ?_⟩
    · show I27 q k = I q k
      by_cases a1 : q = 79 ∧ k = s
      · rw [a1.1, a1.2, eI27, up2_ne (fun e => by cases e.1), ← ey, eI21, up2_eq, Int32.sub_add_cancel]
        exact elf.symm
      by_cases a2 : q = 80 ∧ k = s
      · rw [a2.1, a2.2, ← ey, eI27, up2_eq, Int32.add_sub_cancel]
        exact efr.symm
      rw [k5 q k a1 a2, (show I3 q k = I14 q k from hk3 q k hq)]
      exact hJb q k a1 a2
    · show I27 81 k = I 81 k
      rw [k5 81 k (fun e => by cases e.1) (fun e => by cases e.1), hk83 k hk]
      exact hJb 81 k (fun e => by cases e.1) (fun e => by cases e.1)
    · show bsC I27 = _
      have b5 : bsC I27 = bsC I3 := bsC_congr (k5 75 12 (fun e => by cases e.1) (fun e => by cases e.1)) (k5 75 11 (fun e => by cases e.1) (fun e => by cases e.1)) (fun k => k5 82 k (fun e => by cases e.1) (fun e => by cases e.1))
      have er : rwL I14 81 made.toInt.toNat = rwL I 81 made.toInt.toNat := rwL_congr (fun k _ => hJb 81 k (fun e => by cases e.1) (fun e => by cases e.1))
      have hx0 : ∀ k, k < ma.toInt.toNat → 0 ≤ (vxC J I dd ma.toInt.toNat).2.1 k := fun k _ => (dyC_c hdd hD k).1
      rw [b5, hz3, er, yyMP_fst, ← yyG_mx (P := (vRow J 56 76)) (d := dd) (by omega) (fun _ => vRow_ge) hx0 (dyC_w hD) hs, ← yyL_some (by omega) hx0 hs]
  · show bsC I14 = upY (-1) [] home.toInt _ (bsC I)
    rw [upY_neg (by decide)]
    exact bsC_congr (hJb 75 12 (fun e => by cases e.1) (fun e => by cases e.1)) (hJb 75 11 (fun e => by cases e.1) (fun e => by cases e.1)) (fun k => hJb 82 k (fun e => by cases e.1) (fun e => by cases e.1))
