/-! ===== bread of our side: the least by the bits of what is shut (wip/genbread.py) ===== -/
theorem i32nat {e : Int32} (h0 : 0 ≤ e.toInt) : e = Int32.ofNat e.toInt.toNat := Int32.toInt_inj.mp (by rw [Int32.toInt_ofNat_of_lt (by have := i32b e; unfold lo32 hi32 at this; omega)]; omega)
set_option maxRecDepth 100000 in
theorem b_shr8 : ∀ s : Fin 256, ∀ i : Fin 8, ((Int32.ofNat s.val >>> (Int32.ofNat i.val &&& 31)) &&& 1).toInt = (bt s.val i.val : Int) := by decide +kernel
set_option maxRecDepth 100000 in
theorem b_or8 : ∀ s : Fin 256, ∀ i : Fin 8, bt s.val i.val = 0 → (Int32.ofNat s.val ||| (1 <<< (Int32.ofNat i.val &&& 31))).toInt = ((s.val + 2 ^ i.val : Nat) : Int) := by decide +kernel
set_option maxRecDepth 100000 in
theorem b_shl8 : ∀ i : Fin 9, ((1 : Int32) <<< (Int32.ofNat i.val &&& 31)).toInt = ((2 ^ i.val : Nat) : Int) := by decide +kernel
theorem b_shr {s i : Int32} (hs : 0 ≤ s.toInt ∧ s.toInt ≤ 255) (hi : 0 ≤ i.toInt ∧ i.toInt ≤ 7) : ((s >>> (i &&& 31)) &&& 1).toInt = (bt s.toInt.toNat i.toInt.toNat : Int) := by
  have h := b_shr8 ⟨s.toInt.toNat, by omega⟩ ⟨i.toInt.toNat, by omega⟩
  dsimp only at h
  rw [← i32nat hs.1, ← i32nat hi.1] at h
  exact h
theorem b_or {s i : Int32} (hs : 0 ≤ s.toInt ∧ s.toInt ≤ 255) (hi : 0 ≤ i.toInt ∧ i.toInt ≤ 7) (hb : bt s.toInt.toNat i.toInt.toNat = 0) : (s ||| (1 <<< (i &&& 31))).toInt = ((s.toInt.toNat + 2 ^ i.toInt.toNat : Nat) : Int) := by
  have h := b_or8 ⟨s.toInt.toNat, by omega⟩ ⟨i.toInt.toNat, by omega⟩
  dsimp only at h
  rw [← i32nat hs.1, ← i32nat hi.1] at h
  exact h hb
theorem b_orn {s i : Int32} (hs : 0 ≤ s.toInt ∧ s.toInt ≤ 255) (hi : 0 ≤ i.toInt ∧ i.toInt ≤ 7) (hb : bt s.toInt.toNat i.toInt.toNat = 0) : 0 ≤ (s ||| (1 <<< (i &&& 31))).toInt ∧ (s ||| (1 <<< (i &&& 31))).toInt.toNat = s.toInt.toNat + 2 ^ i.toInt.toNat := by
  rw [b_or hs hi hb]
  exact ⟨Int.natCast_nonneg _, Int.toNat_natCast _⟩
theorem b_shl {i : Int32} (hi : 0 ≤ i.toInt ∧ i.toInt ≤ 8) : ((1 : Int32) <<< (i &&& 31)).toInt = ((2 ^ i.toInt.toNat : Nat) : Int) := by
  have h := b_shl8 ⟨i.toInt.toNat, by omega⟩
  dsimp only at h
  rw [← i32nat hi.1] at h
  exact h
theorem pow8 {n : Nat} (h : n ≤ 8) : 1 ≤ 2 ^ n ∧ 2 ^ n ≤ 256 := ⟨Nat.one_le_two_pow, Nat.pow_le_pow_right (n := 2) (by decide) h⟩
theorem mulB {x y : Int32} {b : Nat} (hx : x.toInt = (b : Int)) (hb : b = 0 ∨ b = 1) (hy : 0 ≤ y.toInt ∧ y.toInt ≤ 1000) : (x * y).toInt = (b : Int) * y.toInt := by
  rw [Int32.toInt_mul, hx]
  rcases hb with rfl | rfl
  · have e : ((0 : Nat) : Int) * y.toInt = 0 := Int.zero_mul _
    rw [e]
    rfl
  · have e : ((1 : Nat) : Int) * y.toInt = y.toInt := Int.one_mul _
    rw [e]
    exact bm32 (by unfold lo32; omega) (by unfold hi32; omega)
theorem mulK {x y : Int32} (hx : 0 ≤ x.toInt ∧ x.toInt ≤ 999) (hy : 0 ≤ y.toInt ∧ y.toInt ≤ 1000) : (x * y).toInt = x.toInt * y.toInt ∧ 0 ≤ x.toInt * y.toInt ∧ x.toInt * y.toInt ≤ 999 * y.toInt := by
  have a1 : 0 ≤ x.toInt * y.toInt := Int.mul_nonneg hx.1 hy.1
  have a2 : x.toInt * y.toInt ≤ 999 * y.toInt := Int.mul_le_mul_of_nonneg_right hx.2 hy.1
  refine ⟨?_, a1, a2⟩
  rw [Int32.toInt_mul]
  exact bm32 (by unfold lo32; omega) (by unfold hi32; omega)
def rI (I : Nat → Nat → Int32) (q : Nat) (i : Nat) : Int := (I q i).toInt
/-- all that must be shut ahead of camp i is shut -/
def okA (A : Nat → Int32) (n : Int32) (s i : Nat) : Bool := decide (((A i &&& ((1 <<< (n &&& 31)) - 1)) &&& ((Int32.ofNat s) ^^^ (-1))).toInt = 0)
def EEI (I : Nat → Nat → Int32) (qd qb qa : Nat) (n : Int32) (s : Nat) : Int := EE n.toInt.toNat (rI I qd) (rI I qb) (okA (I qa) n) s
def bFI (I : Nat → Nat → Int32) (qd qb qa : Nat) (n : Int32) (s i : Nat) : Int := brF n.toInt.toNat (rI I qd) (rI I qb) (okA (I qa) n) (EEI I qd qb qa n) s i
theorem EEI_step {I : Nat → Nat → Int32} {qd qb qa : Nat} {n : Int32} {s : Nat} (hn : n.toInt.toNat ≤ 8) (h : s + 1 < 2 ^ n.toInt.toNat) : EEI I qd qb qa n s = lmn (bFI I qd qb qa n s) n.toInt.toNat := EE_step hn h
theorem bFI_no {I : Nat → Nat → Int32} {qd qb qa : Nat} {n : Int32} {s i : Nat} (h : ¬ (bt s i = 0 ∧ okA (I qa) n s i = true)) : bFI I qd qb qa n s i = 100000000 := if_neg h
theorem bFI_yes {I : Nat → Nat → Int32} {qd qb qa : Nat} {n : Int32} {s i : Nat} (h : bt s i = 0 ∧ okA (I qa) n s i = true) : bFI I qd qb qa n s i = (I qb i).toInt * (tmS (rI I qd) s n.toInt.toNat + (I qd i).toInt) + EEI I qd qb qa n (s + 2 ^ i) := if_pos h
theorem okA_eq {A : Nat → Int32} {n al : Int32} {s i : Int32} (hs : 0 ≤ s.toInt) (ha : (1 <<< (n &&& 31)) - 1 = al) : okA A n s.toInt.toNat i.toInt.toNat = true ↔ ((A i.toNatClampNeg &&& al) &&& (s ^^^ (-1))).toInt = 0 := by
  unfold okA
  rw [← i32nat hs, ha, decide_eq_true_eq]
  exact Iff.rfl
theorem lmn_no {f : Nat → Int} {n : Nat} (h : f n = 100000000) : lmn f (n + 1) = lmn f n := by
  show (if f n < lmn f n then f n else lmn f n) = lmn f n
  have := lmn_le (f := f) (n := n)
  exact if_neg (by omega)
theorem time_lp {d : Nat} {sh : List mE} {I : Nat → Nat → Int32} {L : Nat → Nat → Int64} {R : Nat → Nat → Option Nat} {s m : Int32} (hw : wOK (mkT vV []) (wE sh R) (sh, I, L, R)) (hs : 0 ≤ s.toInt ∧ s.toInt ≤ 255) (em : I 83 1 = m) (hm : 0 ≤ m.toInt ∧ m.toInt ≤ 8) : ∀ (z : Nat) (i t : Int32), 0 ≤ i.toInt → i.toInt ≤ m.toInt → m.toInt - i.toInt < z → t.toInt = tmS (rI I 85) s.toInt.toNat i.toInt.toNat → XW 194 mr_194 none d 0 0 (fun r w' => (∃ x : Int32, r = some (.int x) ∧ x.toInt = tmS (rI I 85) s.toInt.toNat m.toInt.toNat) ∧ w' = (sh, I, L, R)) (4, [(3, .int i), (2, .int t), (0, .ref 83), (1, .int s)], [], (sh, I, L, R)) := by
  have c83 : sh[83]? = some (.inr 10) := hw.1 83 _ rfl
  have c85 : sh[85]? = some (.inl (.int, 8)) := hw.1 85 _ rfl
  have r83_3 : R 83 3 = some 85 := hw.2.1 83 3 _ rfl
  have z1 : (1 : Int32).toInt = 1 := rfl
  intro z
  induction z with
  | zero =>
    intro i t h1 h2 hz ht
    exfalso
    omega
  | succ z ih =>
    intro i t h1 h2 hz ht
    refine XW.fam (S' := (5, [(3, .int i), (2, .int t), (0, .ref 83), (1, .int s)], [.int i], (sh, I, L, R))) (M := mr_194) rfl (show mcode 194 4 = some (4, .iload_n 3, 1, 0, 0, 0, _) from rfl) (Or.inl ⟨.int i, rfl, rfl⟩) ?_
    refine XW.fam (S' := (6, [(3, .int i), (2, .int t), (0, .ref 83), (1, .int s)], [.ref 83, .int i], (sh, I, L, R))) (M := mr_194) rfl (show mcode 194 5 = some (5, .aload_n 0, 1, 0, 0, 0, _) from rfl) (Or.inl ⟨.ref 83, rfl, rfl⟩) ?_
    refine XW.fam (S' := (9, [(3, .int i), (2, .int t), (0, .ref 83), (1, .int s)], [.int (I 83 1), .int i], (sh, I, L, R))) (M := mr_194) rfl (show mcode 194 6 = some (6, .getfield 47, 3, 10, 1, 0, _) from rfl) (Or.inr (Or.inr (Or.inr (Or.inr (Or.inr (Or.inr (Or.inr (Or.inl ⟨_, _, rfl, fl_ldI c83 (by decide) (by decide), rfl⟩)))))))) ?_
    rw [em]
    cases k1 : bcmp .ge i m with
    | true =>
      have gk1 : (m).toInt ≤ (i).toInt := icT (c := .ge) (a := (i).toInt) (b := (m).toInt) rfl rfl k1
      refine XW.fam (S' := (33, [(3, .int i), (2, .int t), (0, .ref 83), (1, .int s)], [], (sh, I, L, R))) (M := mr_194) rfl (show mcode 194 9 = some (9, .if_icmp .ge 24, 3, 33, 0, 0, _) from rfl) (Or.inr (Or.inl ⟨33, [], by simp [brn, k1], rfl⟩)) ?_
      refine XW.fam (S' := (34, [(3, .int i), (2, .int t), (0, .ref 83), (1, .int s)], [.int t], (sh, I, L, R))) (M := mr_194) rfl (show mcode 194 33 = some (33, .iload_n 2, 1, 0, 0, 0, _) from rfl) (Or.inl ⟨.int t, rfl, rfl⟩) ?_
      refine XW.ret (r := some (.int t)) ⟨⟨.int, rfl, rfl⟩, by decide +kernel⟩ ?_
      have ei : i.toInt.toNat = m.toInt.toNat := by omega
      rw [ei] at ht
      exact ⟨⟨t, rfl, ht⟩, rfl⟩
    | false =>
      have gk1 : ¬ ((m).toInt ≤ (i).toInt) := icF (c := .ge) (a := (i).toInt) (b := (m).toInt) rfl rfl k1
      refine XW.fam (S' := (12, [(3, .int i), (2, .int t), (0, .ref 83), (1, .int s)], [], (sh, I, L, R))) (M := mr_194) rfl (show mcode 194 9 = some (9, .if_icmp .ge 24, 3, 33, 0, 0, _) from rfl) (Or.inr (Or.inl ⟨12, [], by simp [brn, k1], rfl⟩)) ?_
      refine XW.fam (S' := (13, [(3, .int i), (2, .int t), (0, .ref 83), (1, .int s)], [.int t], (sh, I, L, R))) (M := mr_194) rfl (show mcode 194 12 = some (12, .iload_n 2, 1, 0, 0, 0, _) from rfl) (Or.inl ⟨.int t, rfl, rfl⟩) ?_
      refine XW.fam (S' := (14, [(3, .int i), (2, .int t), (0, .ref 83), (1, .int s)], [.int s, .int t], (sh, I, L, R))) (M := mr_194) rfl (show mcode 194 13 = some (13, .iload_n 1, 1, 0, 0, 0, _) from rfl) (Or.inl ⟨.int s, rfl, rfl⟩) ?_
      refine XW.fam (S' := (15, [(3, .int i), (2, .int t), (0, .ref 83), (1, .int s)], [.int i, .int s, .int t], (sh, I, L, R))) (M := mr_194) rfl (show mcode 194 14 = some (14, .iload_n 3, 1, 0, 0, 0, _) from rfl) (Or.inl ⟨.int i, rfl, rfl⟩) ?_
      refine XW.fam (S' := (16, [(3, .int i), (2, .int t), (0, .ref 83), (1, .int s)], [.int (s >>> (i &&& 31)), .int t], (sh, I, L, R))) (M := mr_194) rfl (show mcode 194 15 = some (15, .ishr, 1, 0, 0, 0, _) from rfl) (Or.inr (Or.inr (Or.inr (Or.inr (Or.inr (Or.inl ⟨_, rfl, rfl⟩)))))) ?_
      refine XW.fam (S' := (17, [(3, .int i), (2, .int t), (0, .ref 83), (1, .int s)], [.int 1, .int (s >>> (i &&& 31)), .int t], (sh, I, L, R))) (M := mr_194) rfl (show mcode 194 16 = some (16, .iconst 1, 1, 0, 0, 0, _) from rfl) (Or.inl ⟨.int 1, rfl, rfl⟩) ?_
      refine XW.fam (S' := (18, [(3, .int i), (2, .int t), (0, .ref 83), (1, .int s)], [.int ((s >>> (i &&& 31)) &&& 1), .int t], (sh, I, L, R))) (M := mr_194) rfl (show mcode 194 17 = some (17, .iand, 1, 0, 0, 0, _) from rfl) (Or.inr (Or.inr (Or.inr (Or.inr (Or.inr (Or.inl ⟨_, rfl, rfl⟩)))))) ?_
      refine XW.fam (S' := (19, [(3, .int i), (2, .int t), (0, .ref 83), (1, .int s)], [.ref 83, .int ((s >>> (i &&& 31)) &&& 1), .int t], (sh, I, L, R))) (M := mr_194) rfl (show mcode 194 18 = some (18, .aload_n 0, 1, 0, 0, 0, _) from rfl) (Or.inl ⟨.ref 83, rfl, rfl⟩) ?_
      refine XW.fam (S' := (22, [(3, .int i), (2, .int t), (0, .ref 83), (1, .int s)], [.ref 85, .int ((s >>> (i &&& 31)) &&& 1), .int t], (sh, I, L, R))) (M := mr_194) rfl (show mcode 194 19 = some (19, .getfield 15, 3, 10, 3, 0, _) from rfl) (Or.inr (Or.inr (Or.inr (Or.inr (Or.inr (Or.inr (Or.inr (Or.inl ⟨_, _, rfl, fl_ld c83 r83_3 (by decide) (by decide), rfl⟩)))))))) ?_
      refine XW.fam (S' := (23, [(3, .int i), (2, .int t), (0, .ref 83), (1, .int s)], [.int i, .ref 85, .int ((s >>> (i &&& 31)) &&& 1), .int t], (sh, I, L, R))) (M := mr_194) rfl (show mcode 194 22 = some (22, .iload_n 3, 1, 0, 0, 0, _) from rfl) (Or.inl ⟨.int i, rfl, rfl⟩) ?_
      have hin2 : inR i 8 = true := inR_of (by omega) (by omega)
      refine XW.fam (S' := (24, [(3, .int i), (2, .int t), (0, .ref 83), (1, .int s)], [.int (I 85 (i).toNatClampNeg), .int ((s >>> (i &&& 31)) &&& 1), .int t], (sh, I, L, R))) (M := mr_194) rfl (show mcode 194 23 = some (23, .iaload, 1, 0, 0, 0, _) from rfl) (Or.inr (Or.inr (Or.inl ⟨_, lda_i c85 hin2, rfl⟩))) ?_
      refine XW.fam (S' := (25, [(3, .int i), (2, .int t), (0, .ref 83), (1, .int s)], [.int (((s >>> (i &&& 31)) &&& 1) * (I 85 (i).toNatClampNeg)), .int t], (sh, I, L, R))) (M := mr_194) rfl (show mcode 194 24 = some (24, .imul, 1, 0, 0, 0, _) from rfl) (Or.inr (Or.inr (Or.inr (Or.inr (Or.inr (Or.inl ⟨_, rfl, rfl⟩)))))) ?_
      refine XW.fam (S' := (26, [(3, .int i), (2, .int t), (0, .ref 83), (1, .int s)], [.int (t + (((s >>> (i &&& 31)) &&& 1) * (I 85 (i).toNatClampNeg)))], (sh, I, L, R))) (M := mr_194) rfl (show mcode 194 25 = some (25, .iadd, 1, 0, 0, 0, _) from rfl) (Or.inr (Or.inr (Or.inr (Or.inr (Or.inr (Or.inl ⟨_, rfl, rfl⟩)))))) ?_
      refine XW.fam (S' := (27, [(2, .int (t + (((s >>> (i &&& 31)) &&& 1) * (I 85 (i).toNatClampNeg)))), (3, .int i), (0, .ref 83), (1, .int s)], [], (sh, I, L, R))) (M := mr_194) rfl (show mcode 194 26 = some (26, .istore_n 2, 1, 0, 0, 0, _) from rfl) (Or.inr (Or.inr (Or.inr (Or.inr (Or.inr (Or.inr (Or.inl ⟨_, [], _, rfl, rfl, rfl⟩))))))) ?_
      refine XW.fam (S' := (30, [(3, .int (i + Int32.ofInt 1)), (2, .int (t + (((s >>> (i &&& 31)) &&& 1) * (I 85 (i).toNatClampNeg)))), (0, .ref 83), (1, .int s)], [], (sh, I, L, R))) (M := mr_194) rfl (show mcode 194 27 = some (27, .iinc 3 1, 3, 0, 0, 0, _) from rfl) (Or.inr (Or.inr (Or.inr (Or.inr (Or.inr (Or.inr (Or.inr (Or.inr (Or.inr ⟨3, 1, i, rfl, rfl, by decide, rfl⟩))))))))) ?_
      refine XW.fam (S' := (4, [(3, .int (i + Int32.ofInt 1)), (2, .int (t + (((s >>> (i &&& 31)) &&& 1) * (I 85 (i).toNatClampNeg)))), (0, .ref 83), (1, .int s)], [], (sh, I, L, R))) (M := mr_194) rfl (show mcode 194 30 = some (30, .goto (-26), 3, 4, 0, 0, _) from rfl) (Or.inr (Or.inl ⟨4, [], rfl, rfl⟩)) ?_
      have eo := incO (m := i) (by omega) (by omega)
      have hb := b_shr (s := s) (i := i) hs (by omega)
      have hd : 0 ≤ (I 85 (i).toNatClampNeg).toInt ∧ (I 85 (i).toNatClampNeg).toInt ≤ 20 := hw.2.2.1 85 _
      have hm1 := mulB (y := I 85 (i).toNatClampNeg) hb bt_le (by omega)
      have htr := tm_rng (D := rI I 85) (s := s.toInt.toNat) (c := 20) (fun k => hw.2.2.1 85 k) (n := i.toInt.toNat)
      have hq : 0 ≤ ((bt s.toInt.toNat i.toInt.toNat : Nat) : Int) * (I 85 (i).toNatClampNeg).toInt ∧ ((bt s.toInt.toNat i.toInt.toNat : Nat) : Int) * (I 85 (i).toNatClampNeg).toInt ≤ 20 := by
        rcases bt_le (s := s.toInt.toNat) (i := i.toInt.toNat) with q | q
        · rw [q]
          show 0 ≤ 0 * (I 85 (i).toNatClampNeg).toInt ∧ 0 * (I 85 (i).toNatClampNeg).toInt ≤ 20
          rw [Int.zero_mul]
          omega
        · rw [q]
          show 0 ≤ 1 * (I 85 (i).toNatClampNeg).toInt ∧ 1 * (I 85 (i).toNatClampNeg).toInt ≤ 20
          rw [Int.one_mul]
          omega
      have es := sumS (a := t) (b := (((s >>> (i &&& 31)) &&& 1) * (I 85 (i).toNatClampNeg))) (by omega) (by omega)
      refine XW.sub (ls' := [(3, .int (i + Int32.ofInt 1)), (2, .int (t + (((s >>> (i &&& 31)) &&& 1) * (I 85 (i).toNatClampNeg)))), (0, .ref 83), (1, .int s)]) (List.forall_mem_cons.mpr ⟨List.mem_of_getElem? (i := 0) rfl, (List.forall_mem_cons.mpr ⟨List.mem_of_getElem? (i := 1) rfl, (List.forall_mem_cons.mpr ⟨List.mem_of_getElem? (i := 2) rfl, (List.forall_mem_cons.mpr ⟨List.mem_of_getElem? (i := 3) rfl, (fun _ h => absurd h List.not_mem_nil)⟩)⟩)⟩)⟩) ?_
      refine ih (i + Int32.ofInt 1) (t + (((s >>> (i &&& 31)) &&& 1) * (I 85 (i).toNatClampNeg))) (by omega) (by omega) (by omega) ?_
      have en : (i + Int32.ofInt 1).toInt.toNat = i.toInt.toNat + 1 := by omega
      rw [en, es, hm1, ht]
      rfl
theorem tc_time {d : Nat} {sh : List mE} {I : Nat → Nat → Int32} {L : Nat → Nat → Int64} {R : Nat → Nat → Option Nat} {s m : Int32} (hw : wOK (mkT vV []) (wE sh R) (sh, I, L, R)) (hs : 0 ≤ s.toInt ∧ s.toInt ≤ 255) (em : I 83 1 = m) (hm : 0 ≤ m.toInt ∧ m.toInt ≤ 8) : Tc 194 d 0 0 [.ref 83, .int s] (sh, I, L, R) (fun r w' => (∃ x : Int32, r = some (.int x) ∧ x.toInt = tmS (rI I 85) s.toInt.toNat m.toInt.toNat) ∧ w' = (sh, I, L, R)) := by
  have z0 : (0 : Int32).toInt = 0 := rfl
  refine Tc.of mr_194 rfl (show 2 ≤ mr_194.2.2.2.1 by decide) ?_
  refine XW.fam (S' := (1, [(0, .ref 83), (1, .int s)], [.int 0], (sh, I, L, R))) (M := mr_194) rfl (show mcode 194 0 = some (0, .iconst 0, 1, 0, 0, 0, _) from rfl) (Or.inl ⟨.int 0, rfl, rfl⟩) ?_
  refine XW.fam (S' := (2, [(2, .int 0), (0, .ref 83), (1, .int s)], [], (sh, I, L, R))) (M := mr_194) rfl (show mcode 194 1 = some (1, .istore_n 2, 1, 0, 0, 0, _) from rfl) (Or.inr (Or.inr (Or.inr (Or.inr (Or.inr (Or.inr (Or.inl ⟨_, [], _, rfl, rfl, rfl⟩))))))) ?_
  refine XW.fam (S' := (3, [(2, .int 0), (0, .ref 83), (1, .int s)], [.int 0], (sh, I, L, R))) (M := mr_194) rfl (show mcode 194 2 = some (2, .iconst 0, 1, 0, 0, 0, _) from rfl) (Or.inl ⟨.int 0, rfl, rfl⟩) ?_
  refine XW.fam (S' := (4, [(3, .int 0), (2, .int 0), (0, .ref 83), (1, .int s)], [], (sh, I, L, R))) (M := mr_194) rfl (show mcode 194 3 = some (3, .istore_n 3, 1, 0, 0, 0, _) from rfl) (Or.inr (Or.inr (Or.inr (Or.inr (Or.inr (Or.inr (Or.inl ⟨_, [], _, rfl, rfl, rfl⟩))))))) ?_
  refine XW.sub (ls' := [(3, .int 0), (2, .int 0), (0, .ref 83), (1, .int s)]) (List.forall_mem_cons.mpr ⟨List.mem_of_getElem? (i := 0) rfl, (List.forall_mem_cons.mpr ⟨List.mem_of_getElem? (i := 1) rfl, (List.forall_mem_cons.mpr ⟨List.mem_of_getElem? (i := 2) rfl, (List.forall_mem_cons.mpr ⟨List.mem_of_getElem? (i := 3) rfl, (fun _ h => absurd h List.not_mem_nil)⟩)⟩)⟩)⟩) ?_
  exact time_lp (d := d) hw hs em hm 9 0 0 (by decide) (by have z0 : (0 : Int32).toInt = 0 := rfl; omega) (by have z0 : (0 : Int32).toInt = 0 := rfl; omega) rfl
theorem tc_may {d : Nat} {sh : List mE} {I : Nat → Nat → Int32} {L : Nat → Nat → Int64} {R : Nat → Nat → Option Nat} {i s al : Int32} (hw : wOK (mkT vV []) (wE sh R) (sh, I, L, R)) (hs : 0 ≤ s.toInt ∧ s.toInt ≤ 255) (hi : 0 ≤ i.toInt ∧ i.toInt ≤ 7) : Tc 195 d 0 0 [.ref 83, .int i, .int s, .int al] (sh, I, L, R) (fun r w' => ((r = some (.int 0) ∧ ¬ (bt s.toInt.toNat i.toInt.toNat = 0 ∧ ((I 87 (i).toNatClampNeg &&& al) &&& (s ^^^ (-1))).toInt = 0)) ∨ (r = some (.int 1) ∧ bt s.toInt.toNat i.toInt.toNat = 0 ∧ ((I 87 (i).toNatClampNeg &&& al) &&& (s ^^^ (-1))).toInt = 0)) ∧ w' = (sh, I, L, R)) := by
  have c83 : sh[83]? = some (.inr 10) := hw.1 83 _ rfl
  have c87 : sh[87]? = some (.inl (.int, 8)) := hw.1 87 _ rfl
  have r83_5 : R 83 5 = some 87 := hw.2.1 83 5 _ rfl
  have zm1 : ((-1) : Int32).toInt = (-1) := rfl
  have z0 : (0 : Int32).toInt = 0 := rfl
  have z1 : (1 : Int32).toInt = 1 := rfl
  have hb := b_shr (s := s) (i := i) hs hi
  refine Tc.of mr_195 rfl (show 4 ≤ mr_195.2.2.2.1 by decide) ?_
  refine XW.fam (S' := (1, [(0, .ref 83), (1, .int i), (2, .int s), (3, .int al)], [.int s], (sh, I, L, R))) (M := mr_195) rfl (show mcode 195 0 = some (0, .iload_n 2, 1, 0, 0, 0, _) from rfl) (Or.inl ⟨.int s, rfl, rfl⟩) ?_
  refine XW.fam (S' := (2, [(0, .ref 83), (1, .int i), (2, .int s), (3, .int al)], [.int i, .int s], (sh, I, L, R))) (M := mr_195) rfl (show mcode 195 1 = some (1, .iload_n 1, 1, 0, 0, 0, _) from rfl) (Or.inl ⟨.int i, rfl, rfl⟩) ?_
  refine XW.fam (S' := (3, [(0, .ref 83), (1, .int i), (2, .int s), (3, .int al)], [.int (s >>> (i &&& 31))], (sh, I, L, R))) (M := mr_195) rfl (show mcode 195 2 = some (2, .ishr, 1, 0, 0, 0, _) from rfl) (Or.inr (Or.inr (Or.inr (Or.inr (Or.inr (Or.inl ⟨_, rfl, rfl⟩)))))) ?_
  refine XW.fam (S' := (4, [(0, .ref 83), (1, .int i), (2, .int s), (3, .int al)], [.int 1, .int (s >>> (i &&& 31))], (sh, I, L, R))) (M := mr_195) rfl (show mcode 195 3 = some (3, .iconst 1, 1, 0, 0, 0, _) from rfl) (Or.inl ⟨.int 1, rfl, rfl⟩) ?_
  refine XW.fam (S' := (5, [(0, .ref 83), (1, .int i), (2, .int s), (3, .int al)], [.int ((s >>> (i &&& 31)) &&& 1)], (sh, I, L, R))) (M := mr_195) rfl (show mcode 195 4 = some (4, .iand, 1, 0, 0, 0, _) from rfl) (Or.inr (Or.inr (Or.inr (Or.inr (Or.inr (Or.inl ⟨_, rfl, rfl⟩)))))) ?_
  cases k1 : bcmp .ne ((s >>> (i &&& 31)) &&& 1) 0 with
  | true =>
    have gk1 : ¬ (((s >>> (i &&& 31)) &&& 1)).toInt = 0 := icT (c := .ne) (a := (((s >>> (i &&& 31)) &&& 1)).toInt) (b := 0) rfl (by decide) k1
    refine XW.fam (S' := (27, [(0, .ref 83), (1, .int i), (2, .int s), (3, .int al)], [], (sh, I, L, R))) (M := mr_195) rfl (show mcode 195 5 = some (5, .ifCond .ne 22, 3, 27, 0, 0, _) from rfl) (Or.inr (Or.inl ⟨27, [], by simp [brn, k1], rfl⟩)) ?_
    refine XW.fam (S' := (28, [(0, .ref 83), (1, .int i), (2, .int s), (3, .int al)], [.int 0], (sh, I, L, R))) (M := mr_195) rfl (show mcode 195 27 = some (27, .iconst 0, 1, 0, 0, 0, _) from rfl) (Or.inl ⟨.int 0, rfl, rfl⟩) ?_
    refine XW.ret (r := some (.int 0)) ⟨⟨.boolean, rfl, rfl⟩, by decide +kernel⟩ ?_
    exact ⟨Or.inl ⟨rfl, fun q => by omega⟩, rfl⟩
  | false =>
    have gk1 : ¬ (¬ (((s >>> (i &&& 31)) &&& 1)).toInt = 0) := icF (c := .ne) (a := (((s >>> (i &&& 31)) &&& 1)).toInt) (b := 0) rfl (by decide) k1
    refine XW.fam (S' := (8, [(0, .ref 83), (1, .int i), (2, .int s), (3, .int al)], [], (sh, I, L, R))) (M := mr_195) rfl (show mcode 195 5 = some (5, .ifCond .ne 22, 3, 27, 0, 0, _) from rfl) (Or.inr (Or.inl ⟨8, [], by simp [brn, k1], rfl⟩)) ?_
    refine XW.fam (S' := (9, [(0, .ref 83), (1, .int i), (2, .int s), (3, .int al)], [.ref 83], (sh, I, L, R))) (M := mr_195) rfl (show mcode 195 8 = some (8, .aload_n 0, 1, 0, 0, 0, _) from rfl) (Or.inl ⟨.ref 83, rfl, rfl⟩) ?_
    refine XW.fam (S' := (12, [(0, .ref 83), (1, .int i), (2, .int s), (3, .int al)], [.ref 87], (sh, I, L, R))) (M := mr_195) rfl (show mcode 195 9 = some (9, .getfield 21, 3, 10, 5, 0, _) from rfl) (Or.inr (Or.inr (Or.inr (Or.inr (Or.inr (Or.inr (Or.inr (Or.inl ⟨_, _, rfl, fl_ld c83 r83_5 (by decide) (by decide), rfl⟩)))))))) ?_
    refine XW.fam (S' := (13, [(0, .ref 83), (1, .int i), (2, .int s), (3, .int al)], [.int i, .ref 87], (sh, I, L, R))) (M := mr_195) rfl (show mcode 195 12 = some (12, .iload_n 1, 1, 0, 0, 0, _) from rfl) (Or.inl ⟨.int i, rfl, rfl⟩) ?_
    have hin2 : inR i 8 = true := inR_of (by omega) (by omega)
    refine XW.fam (S' := (14, [(0, .ref 83), (1, .int i), (2, .int s), (3, .int al)], [.int (I 87 (i).toNatClampNeg)], (sh, I, L, R))) (M := mr_195) rfl (show mcode 195 13 = some (13, .iaload, 1, 0, 0, 0, _) from rfl) (Or.inr (Or.inr (Or.inl ⟨_, lda_i c87 hin2, rfl⟩))) ?_
    refine XW.fam (S' := (15, [(0, .ref 83), (1, .int i), (2, .int s), (3, .int al)], [.int al, .int (I 87 (i).toNatClampNeg)], (sh, I, L, R))) (M := mr_195) rfl (show mcode 195 14 = some (14, .iload_n 3, 1, 0, 0, 0, _) from rfl) (Or.inl ⟨.int al, rfl, rfl⟩) ?_
    refine XW.fam (S' := (16, [(0, .ref 83), (1, .int i), (2, .int s), (3, .int al)], [.int ((I 87 (i).toNatClampNeg) &&& al)], (sh, I, L, R))) (M := mr_195) rfl (show mcode 195 15 = some (15, .iand, 1, 0, 0, 0, _) from rfl) (Or.inr (Or.inr (Or.inr (Or.inr (Or.inr (Or.inl ⟨_, rfl, rfl⟩)))))) ?_
    refine XW.fam (S' := (17, [(0, .ref 83), (1, .int i), (2, .int s), (3, .int al)], [.int s, .int ((I 87 (i).toNatClampNeg) &&& al)], (sh, I, L, R))) (M := mr_195) rfl (show mcode 195 16 = some (16, .iload_n 2, 1, 0, 0, 0, _) from rfl) (Or.inl ⟨.int s, rfl, rfl⟩) ?_
    refine XW.fam (S' := (18, [(0, .ref 83), (1, .int i), (2, .int s), (3, .int al)], [.int (-1), .int s, .int ((I 87 (i).toNatClampNeg) &&& al)], (sh, I, L, R))) (M := mr_195) rfl (show mcode 195 17 = some (17, .iconst (-1), 1, 0, 0, 0, _) from rfl) (Or.inl ⟨.int (-1), rfl, rfl⟩) ?_
    refine XW.fam (S' := (19, [(0, .ref 83), (1, .int i), (2, .int s), (3, .int al)], [.int (s ^^^ (-1)), .int ((I 87 (i).toNatClampNeg) &&& al)], (sh, I, L, R))) (M := mr_195) rfl (show mcode 195 18 = some (18, .ixor, 1, 0, 0, 0, _) from rfl) (Or.inr (Or.inr (Or.inr (Or.inr (Or.inr (Or.inl ⟨_, rfl, rfl⟩)))))) ?_
    refine XW.fam (S' := (20, [(0, .ref 83), (1, .int i), (2, .int s), (3, .int al)], [.int (((I 87 (i).toNatClampNeg) &&& al) &&& (s ^^^ (-1)))], (sh, I, L, R))) (M := mr_195) rfl (show mcode 195 19 = some (19, .iand, 1, 0, 0, 0, _) from rfl) (Or.inr (Or.inr (Or.inr (Or.inr (Or.inr (Or.inl ⟨_, rfl, rfl⟩)))))) ?_
    obtain ⟨y3, ey3⟩ : ∃ z : Int32, (((I 87 (i).toNatClampNeg) &&& al) &&& (s ^^^ (-1))) = z := ⟨_, rfl⟩
    have ty3 : ((((I 87 (i).toNatClampNeg) &&& al) &&& (s ^^^ (-1)))).toInt = y3.toInt := by rw [ey3]
    rw [ey3]
    cases k4 : bcmp .ne y3 0 with
    | true =>
      have gk4 : ¬ (y3).toInt = 0 := icT (c := .ne) (a := (y3).toInt) (b := 0) rfl (by decide) k4
      refine XW.fam (S' := (27, [(0, .ref 83), (1, .int i), (2, .int s), (3, .int al)], [], (sh, I, L, R))) (M := mr_195) rfl (show mcode 195 20 = some (20, .ifCond .ne 7, 3, 27, 0, 0, _) from rfl) (Or.inr (Or.inl ⟨27, [], by simp [brn, k4], rfl⟩)) ?_
      refine XW.fam (S' := (28, [(0, .ref 83), (1, .int i), (2, .int s), (3, .int al)], [.int 0], (sh, I, L, R))) (M := mr_195) rfl (show mcode 195 27 = some (27, .iconst 0, 1, 0, 0, 0, _) from rfl) (Or.inl ⟨.int 0, rfl, rfl⟩) ?_
      refine XW.ret (r := some (.int 0)) ⟨⟨.boolean, rfl, rfl⟩, by decide +kernel⟩ ?_
      exact ⟨Or.inl ⟨rfl, fun q => by omega⟩, rfl⟩
    | false =>
      have gk4 : ¬ (¬ (y3).toInt = 0) := icF (c := .ne) (a := (y3).toInt) (b := 0) rfl (by decide) k4
      refine XW.fam (S' := (23, [(0, .ref 83), (1, .int i), (2, .int s), (3, .int al)], [], (sh, I, L, R))) (M := mr_195) rfl (show mcode 195 20 = some (20, .ifCond .ne 7, 3, 27, 0, 0, _) from rfl) (Or.inr (Or.inl ⟨23, [], by simp [brn, k4], rfl⟩)) ?_
      refine XW.fam (S' := (24, [(0, .ref 83), (1, .int i), (2, .int s), (3, .int al)], [.int 1], (sh, I, L, R))) (M := mr_195) rfl (show mcode 195 23 = some (23, .iconst 1, 1, 0, 0, 0, _) from rfl) (Or.inl ⟨.int 1, rfl, rfl⟩) ?_
      refine XW.fam (S' := (28, [(0, .ref 83), (1, .int i), (2, .int s), (3, .int al)], [.int 1], (sh, I, L, R))) (M := mr_195) rfl (show mcode 195 24 = some (24, .goto 4, 3, 28, 0, 0, _) from rfl) (Or.inr (Or.inl ⟨28, [.int 1], rfl, rfl⟩)) ?_
      refine XW.ret (r := some (.int 1)) ⟨⟨.boolean, rfl, rfl⟩, by decide +kernel⟩ ?_
      exact ⟨Or.inr ⟨rfl, by omega, by omega⟩, rfl⟩
theorem tc_with {d : Nat} {sh : List mE} {I : Nat → Nat → Int32} {L : Nat → Nat → Int64} {R : Nat → Nat → Option Nat} {i s t : Int32} (hw : wOK (mkT vV []) (wE sh R) (sh, I, L, R)) (hs : 0 ≤ s.toInt ∧ s.toInt ≤ 255) (hi : 0 ≤ i.toInt ∧ i.toInt ≤ 7) (hb : bt s.toInt.toNat i.toInt.toNat = 0) (hfit : s.toInt.toNat + 2 ^ i.toInt.toNat ≤ 255) (ht : 0 ≤ t.toInt ∧ t.toInt ≤ 200) (h8 : ∀ k, k = s.toInt.toNat + 2 ^ i.toInt.toNat → 0 ≤ (I 88 k).toInt ∧ (I 88 k).toInt ≤ 100000000) : Tc 196 d 0 0 [.ref 83, .int i, .int s, .int t] (sh, I, L, R) (fun r w' => (∃ x : Int32, r = some (.int x) ∧ x.toInt = (I 86 i.toInt.toNat).toInt * (t.toInt + (I 85 i.toInt.toNat).toInt) + (I 88 (s.toInt.toNat + 2 ^ i.toInt.toNat)).toInt) ∧ w' = (sh, I, L, R)) := by
  have c83 : sh[83]? = some (.inr 10) := hw.1 83 _ rfl
  have c85 : sh[85]? = some (.inl (.int, 8)) := hw.1 85 _ rfl
  have c86 : sh[86]? = some (.inl (.int, 8)) := hw.1 86 _ rfl
  have c88 : sh[88]? = some (.inl (.int, 256)) := hw.1 88 _ rfl
  have r83_3 : R 83 3 = some 85 := hw.2.1 83 3 _ rfl
  have r83_4 : R 83 4 = some 86 := hw.2.1 83 4 _ rfl
  have r83_6 : R 83 6 = some 88 := hw.2.1 83 6 _ rfl
  have z1 : (1 : Int32).toInt = 1 := rfl
  have h8 := fun k => h8 k
  refine Tc.of mr_196 rfl (show 4 ≤ mr_196.2.2.2.1 by decide) ?_
  refine XW.fam (S' := (1, [(0, .ref 83), (1, .int i), (2, .int s), (3, .int t)], [.ref 83], (sh, I, L, R))) (M := mr_196) rfl (show mcode 196 0 = some (0, .aload_n 0, 1, 0, 0, 0, _) from rfl) (Or.inl ⟨.ref 83, rfl, rfl⟩) ?_
  refine XW.fam (S' := (4, [(0, .ref 83), (1, .int i), (2, .int s), (3, .int t)], [.ref 86], (sh, I, L, R))) (M := mr_196) rfl (show mcode 196 1 = some (1, .getfield 18, 3, 10, 4, 0, _) from rfl) (Or.inr (Or.inr (Or.inr (Or.inr (Or.inr (Or.inr (Or.inr (Or.inl ⟨_, _, rfl, fl_ld c83 r83_4 (by decide) (by decide), rfl⟩)))))))) ?_
  refine XW.fam (S' := (5, [(0, .ref 83), (1, .int i), (2, .int s), (3, .int t)], [.int i, .ref 86], (sh, I, L, R))) (M := mr_196) rfl (show mcode 196 4 = some (4, .iload_n 1, 1, 0, 0, 0, _) from rfl) (Or.inl ⟨.int i, rfl, rfl⟩) ?_
  have hin1 : inR i 8 = true := inR_of (by omega) (by omega)
  refine XW.fam (S' := (6, [(0, .ref 83), (1, .int i), (2, .int s), (3, .int t)], [.int (I 86 (i).toNatClampNeg)], (sh, I, L, R))) (M := mr_196) rfl (show mcode 196 5 = some (5, .iaload, 1, 0, 0, 0, _) from rfl) (Or.inr (Or.inr (Or.inl ⟨_, lda_i c86 hin1, rfl⟩))) ?_
  refine XW.fam (S' := (7, [(0, .ref 83), (1, .int i), (2, .int s), (3, .int t)], [.int t, .int (I 86 (i).toNatClampNeg)], (sh, I, L, R))) (M := mr_196) rfl (show mcode 196 6 = some (6, .iload_n 3, 1, 0, 0, 0, _) from rfl) (Or.inl ⟨.int t, rfl, rfl⟩) ?_
  refine XW.fam (S' := (8, [(0, .ref 83), (1, .int i), (2, .int s), (3, .int t)], [.ref 83, .int t, .int (I 86 (i).toNatClampNeg)], (sh, I, L, R))) (M := mr_196) rfl (show mcode 196 7 = some (7, .aload_n 0, 1, 0, 0, 0, _) from rfl) (Or.inl ⟨.ref 83, rfl, rfl⟩) ?_
  refine XW.fam (S' := (11, [(0, .ref 83), (1, .int i), (2, .int s), (3, .int t)], [.ref 85, .int t, .int (I 86 (i).toNatClampNeg)], (sh, I, L, R))) (M := mr_196) rfl (show mcode 196 8 = some (8, .getfield 15, 3, 10, 3, 0, _) from rfl) (Or.inr (Or.inr (Or.inr (Or.inr (Or.inr (Or.inr (Or.inr (Or.inl ⟨_, _, rfl, fl_ld c83 r83_3 (by decide) (by decide), rfl⟩)))))))) ?_
  refine XW.fam (S' := (12, [(0, .ref 83), (1, .int i), (2, .int s), (3, .int t)], [.int i, .ref 85, .int t, .int (I 86 (i).toNatClampNeg)], (sh, I, L, R))) (M := mr_196) rfl (show mcode 196 11 = some (11, .iload_n 1, 1, 0, 0, 0, _) from rfl) (Or.inl ⟨.int i, rfl, rfl⟩) ?_
  have hin2 : inR i 8 = true := inR_of (by omega) (by omega)
  refine XW.fam (S' := (13, [(0, .ref 83), (1, .int i), (2, .int s), (3, .int t)], [.int (I 85 (i).toNatClampNeg), .int t, .int (I 86 (i).toNatClampNeg)], (sh, I, L, R))) (M := mr_196) rfl (show mcode 196 12 = some (12, .iaload, 1, 0, 0, 0, _) from rfl) (Or.inr (Or.inr (Or.inl ⟨_, lda_i c85 hin2, rfl⟩))) ?_
  refine XW.fam (S' := (14, [(0, .ref 83), (1, .int i), (2, .int s), (3, .int t)], [.int (t + (I 85 (i).toNatClampNeg)), .int (I 86 (i).toNatClampNeg)], (sh, I, L, R))) (M := mr_196) rfl (show mcode 196 13 = some (13, .iadd, 1, 0, 0, 0, _) from rfl) (Or.inr (Or.inr (Or.inr (Or.inr (Or.inr (Or.inl ⟨_, rfl, rfl⟩)))))) ?_
  refine XW.fam (S' := (15, [(0, .ref 83), (1, .int i), (2, .int s), (3, .int t)], [.int ((I 86 (i).toNatClampNeg) * (t + (I 85 (i).toNatClampNeg)))], (sh, I, L, R))) (M := mr_196) rfl (show mcode 196 14 = some (14, .imul, 1, 0, 0, 0, _) from rfl) (Or.inr (Or.inr (Or.inr (Or.inr (Or.inr (Or.inl ⟨_, rfl, rfl⟩)))))) ?_
  refine XW.fam (S' := (16, [(0, .ref 83), (1, .int i), (2, .int s), (3, .int t)], [.ref 83, .int ((I 86 (i).toNatClampNeg) * (t + (I 85 (i).toNatClampNeg)))], (sh, I, L, R))) (M := mr_196) rfl (show mcode 196 15 = some (15, .aload_n 0, 1, 0, 0, 0, _) from rfl) (Or.inl ⟨.ref 83, rfl, rfl⟩) ?_
  refine XW.fam (S' := (19, [(0, .ref 83), (1, .int i), (2, .int s), (3, .int t)], [.ref 88, .int ((I 86 (i).toNatClampNeg) * (t + (I 85 (i).toNatClampNeg)))], (sh, I, L, R))) (M := mr_196) rfl (show mcode 196 16 = some (16, .getfield 24, 3, 10, 6, 0, _) from rfl) (Or.inr (Or.inr (Or.inr (Or.inr (Or.inr (Or.inr (Or.inr (Or.inl ⟨_, _, rfl, fl_ld c83 r83_6 (by decide) (by decide), rfl⟩)))))))) ?_
  refine XW.fam (S' := (20, [(0, .ref 83), (1, .int i), (2, .int s), (3, .int t)], [.int s, .ref 88, .int ((I 86 (i).toNatClampNeg) * (t + (I 85 (i).toNatClampNeg)))], (sh, I, L, R))) (M := mr_196) rfl (show mcode 196 19 = some (19, .iload_n 2, 1, 0, 0, 0, _) from rfl) (Or.inl ⟨.int s, rfl, rfl⟩) ?_
  refine XW.fam (S' := (21, [(0, .ref 83), (1, .int i), (2, .int s), (3, .int t)], [.int 1, .int s, .ref 88, .int ((I 86 (i).toNatClampNeg) * (t + (I 85 (i).toNatClampNeg)))], (sh, I, L, R))) (M := mr_196) rfl (show mcode 196 20 = some (20, .iconst 1, 1, 0, 0, 0, _) from rfl) (Or.inl ⟨.int 1, rfl, rfl⟩) ?_
  refine XW.fam (S' := (22, [(0, .ref 83), (1, .int i), (2, .int s), (3, .int t)], [.int i, .int 1, .int s, .ref 88, .int ((I 86 (i).toNatClampNeg) * (t + (I 85 (i).toNatClampNeg)))], (sh, I, L, R))) (M := mr_196) rfl (show mcode 196 21 = some (21, .iload_n 1, 1, 0, 0, 0, _) from rfl) (Or.inl ⟨.int i, rfl, rfl⟩) ?_
  refine XW.fam (S' := (23, [(0, .ref 83), (1, .int i), (2, .int s), (3, .int t)], [.int (1 <<< (i &&& 31)), .int s, .ref 88, .int ((I 86 (i).toNatClampNeg) * (t + (I 85 (i).toNatClampNeg)))], (sh, I, L, R))) (M := mr_196) rfl (show mcode 196 22 = some (22, .ishl, 1, 0, 0, 0, _) from rfl) (Or.inr (Or.inr (Or.inr (Or.inr (Or.inr (Or.inl ⟨_, rfl, rfl⟩)))))) ?_
  refine XW.fam (S' := (24, [(0, .ref 83), (1, .int i), (2, .int s), (3, .int t)], [.int (s ||| (1 <<< (i &&& 31))), .ref 88, .int ((I 86 (i).toNatClampNeg) * (t + (I 85 (i).toNatClampNeg)))], (sh, I, L, R))) (M := mr_196) rfl (show mcode 196 23 = some (23, .ior, 1, 0, 0, 0, _) from rfl) (Or.inr (Or.inr (Or.inr (Or.inr (Or.inr (Or.inl ⟨_, rfl, rfl⟩)))))) ?_
  have xhin3 := b_orn (s := s) (i := i) hs hi hb
  have hin3 : inR (s ||| (1 <<< (i &&& 31))) 256 = true := inR_of (by omega) (by omega)
  refine XW.fam (S' := (25, [(0, .ref 83), (1, .int i), (2, .int s), (3, .int t)], [.int (I 88 ((s ||| (1 <<< (i &&& 31)))).toNatClampNeg), .int ((I 86 (i).toNatClampNeg) * (t + (I 85 (i).toNatClampNeg)))], (sh, I, L, R))) (M := mr_196) rfl (show mcode 196 24 = some (24, .iaload, 1, 0, 0, 0, _) from rfl) (Or.inr (Or.inr (Or.inl ⟨_, lda_i c88 hin3, rfl⟩))) ?_
  refine XW.fam (S' := (26, [(0, .ref 83), (1, .int i), (2, .int s), (3, .int t)], [.int (((I 86 (i).toNatClampNeg) * (t + (I 85 (i).toNatClampNeg))) + (I 88 ((s ||| (1 <<< (i &&& 31)))).toNatClampNeg))], (sh, I, L, R))) (M := mr_196) rfl (show mcode 196 25 = some (25, .iadd, 1, 0, 0, 0, _) from rfl) (Or.inr (Or.inr (Or.inr (Or.inr (Or.inr (Or.inl ⟨_, rfl, rfl⟩)))))) ?_
  refine XW.ret (r := some (.int (((I 86 (i).toNatClampNeg) * (t + (I 85 (i).toNatClampNeg))) + (I 88 ((s ||| (1 <<< (i &&& 31)))).toNatClampNeg)))) ⟨⟨.int, rfl, rfl⟩, by decide +kernel⟩ ?_
  have h6 : 0 ≤ (I 86 (i).toNatClampNeg).toInt ∧ (I 86 (i).toNatClampNeg).toInt ≤ 999 := hw.2.2.1 86 _
  have h5 : 0 ≤ (I 85 (i).toNatClampNeg).toInt ∧ (I 85 (i).toNatClampNeg).toInt ≤ 20 := hw.2.2.1 85 _
  have ek : ((s ||| (1 <<< (i &&& 31)))).toNatClampNeg = s.toInt.toNat + 2 ^ i.toInt.toNat := by
    show ((s ||| (1 <<< (i &&& 31)))).toInt.toNat = _
    rw [b_or (s := s) (i := i) hs hi hb]
    exact Int.toNat_natCast _
  have e1 := sumS (a := t) (b := I 85 (i).toNatClampNeg) (by omega) (by omega)
  have e2 := mulK (x := I 86 (i).toNatClampNeg) (y := t + I 85 (i).toNatClampNeg) (by omega) (by omega)
  have h8 := h8 (s.toInt.toNat + 2 ^ i.toInt.toNat) rfl
  rw [ek]
  have e3 := sumS (a := I 86 (i).toNatClampNeg * (t + I 85 (i).toNatClampNeg)) (b := I 88 (s.toInt.toNat + 2 ^ i.toInt.toNat)) (by omega) (by omega)
  exact ⟨⟨_, rfl, by rw [e3, e2.1, e1]; rfl⟩, rfl⟩
theorem plan_in {d : Nat} {sh : List mE} {J : Nat → Nat → Int32} {L : Nat → Nat → Int64} {R : Nat → Nat → Option Nat} {m : Int32} {al s t : Int32} (hm : 1 ≤ m.toInt ∧ m.toInt ≤ 8) (em : J 83 1 = m) (hal : (1 <<< (m &&& 31)) - 1 = al) (hal2 : al.toInt + 1 = ((2 ^ m.toInt.toNat : Nat) : Int)) (hJ5 : ∀ k, 0 ≤ (J 85 k).toInt ∧ (J 85 k).toInt ≤ 20) (hJ6 : ∀ k, 0 ≤ (J 86 k).toInt ∧ (J 86 k).toInt ≤ 999) (hs : 0 ≤ s.toInt ∧ s.toInt + 1 < ((2 ^ m.toInt.toNat : Nat) : Int)) (ht : t.toInt = tmS (rI J 85) s.toInt.toNat m.toInt.toNat) {Q : Option Value → mW → Prop} : ∀ (z : Nat) {I : Nat → Nat → Int32} (i : Int32), 0 ≤ i.toInt → i.toInt ≤ m.toInt → m.toInt - i.toInt < z → wOK (mkT vV []) (wE sh R) (sh, I, L, R) → fresh (sh, I, L, R) → (∀ q k, ¬ q = 88 → I q k = J q k) → (∀ u : Nat, s.toInt.toNat < u → u < 2 ^ m.toInt.toNat → (I 88 u).toInt = EEI J 85 86 87 m u) → (I 88 s.toInt.toNat).toInt = lmn (bFI J 85 86 87 m s.toInt.toNat) i.toInt.toNat → (∀ {I : Nat → Nat → Int32}, wOK (mkT vV []) (wE sh R) (sh, I, L, R) → fresh (sh, I, L, R) → (∀ q k, ¬ q = 88 → I q k = J q k) → (∀ u : Nat, s.toInt.toNat < u → u < 2 ^ m.toInt.toNat → (I 88 u).toInt = EEI J 85 86 87 m u) → (I 88 s.toInt.toNat).toInt = lmn (bFI J 85 86 87 m s.toInt.toNat) m.toInt.toNat → ∀ i : Int32, XW 193 mr_193 none (d + 43) 0 0 Q (99, [(4, .int i), (3, .int t), (2, .int s), (1, .int al), (0, .ref 83)], [], (sh, I, L, R))) → XW 193 mr_193 none (d + 43) 0 0 Q (50, [(4, .int i), (3, .int t), (2, .int s), (1, .int al), (0, .ref 83)], [], (sh, I, L, R)) := by
  have p8 := pow8 (n := m.toInt.toNat) (by omega)
  have htr := tm_rng (D := rI J 85) (s := s.toInt.toNat) (c := 20) hJ5 (n := m.toInt.toNat)
  intro z
  induction z with
  | zero =>
    intro I i h1 h2 hz
    exfalso
    omega
  | succ z ih =>
    intro I i h1 h2 hz hw hf hkp hab hin K
    have c83 : sh[83]? = some (.inr 10) := hw.1 83 _ rfl
    have c88 : sh[88]? = some (.inl (.int, 256)) := hw.1 88 _ rfl
    have r83_6 : R 83 6 = some 88 := hw.2.1 83 6 _ rfl
    have vm : I 83 1 = m := (hkp 83 1 (by decide)).trans em
    refine XW.fam (S' := (52, [(4, .int i), (3, .int t), (2, .int s), (1, .int al), (0, .ref 83)], [.int i], (sh, I, L, R))) (M := mr_193) rfl (show mcode 193 50 = some (50, .iload 4, 2, 0, 0, 0, _) from rfl) (Or.inl ⟨.int i, rfl, rfl⟩) ?_
    refine XW.fam (S' := (53, [(4, .int i), (3, .int t), (2, .int s), (1, .int al), (0, .ref 83)], [.ref 83, .int i], (sh, I, L, R))) (M := mr_193) rfl (show mcode 193 52 = some (52, .aload_n 0, 1, 0, 0, 0, _) from rfl) (Or.inl ⟨.ref 83, rfl, rfl⟩) ?_
    refine XW.fam (S' := (56, [(4, .int i), (3, .int t), (2, .int s), (1, .int al), (0, .ref 83)], [.int (I 83 1), .int i], (sh, I, L, R))) (M := mr_193) rfl (show mcode 193 53 = some (53, .getfield 47, 3, 10, 1, 0, _) from rfl) (Or.inr (Or.inr (Or.inr (Or.inr (Or.inr (Or.inr (Or.inr (Or.inl ⟨_, _, rfl, fl_ldI c83 (by decide) (by decide), rfl⟩)))))))) ?_
    rw [vm]
    cases k1 : bcmp .ge i m with
    | true =>
      have gk1 : (m).toInt ≤ (i).toInt := icT (c := .ge) (a := (i).toInt) (b := (m).toInt) rfl rfl k1
      refine XW.fam (S' := (99, [(4, .int i), (3, .int t), (2, .int s), (1, .int al), (0, .ref 83)], [], (sh, I, L, R))) (M := mr_193) rfl (show mcode 193 56 = some (56, .if_icmp .ge 43, 3, 99, 0, 0, _) from rfl) (Or.inr (Or.inl ⟨99, [], by simp [brn, k1], rfl⟩)) ?_
      have ei : i.toInt.toNat = m.toInt.toNat := by omega
      rw [ei] at hin
      exact K hw hf hkp hab hin i
    | false =>
      have gk1 : ¬ ((m).toInt ≤ (i).toInt) := icF (c := .ge) (a := (i).toInt) (b := (m).toInt) rfl rfl k1
      refine XW.fam (S' := (59, [(4, .int i), (3, .int t), (2, .int s), (1, .int al), (0, .ref 83)], [], (sh, I, L, R))) (M := mr_193) rfl (show mcode 193 56 = some (56, .if_icmp .ge 43, 3, 99, 0, 0, _) from rfl) (Or.inr (Or.inl ⟨59, [], by simp [brn, k1], rfl⟩)) ?_
      refine XW.fam (S' := (60, [(4, .int i), (3, .int t), (2, .int s), (1, .int al), (0, .ref 83)], [.ref 83], (sh, I, L, R))) (M := mr_193) rfl (show mcode 193 59 = some (59, .aload_n 0, 1, 0, 0, 0, _) from rfl) (Or.inl ⟨.ref 83, rfl, rfl⟩) ?_
      refine XW.fam (S' := (62, [(4, .int i), (3, .int t), (2, .int s), (1, .int al), (0, .ref 83)], [.int i, .ref 83], (sh, I, L, R))) (M := mr_193) rfl (show mcode 193 60 = some (60, .iload 4, 2, 0, 0, 0, _) from rfl) (Or.inl ⟨.int i, rfl, rfl⟩) ?_
      refine XW.fam (S' := (63, [(4, .int i), (3, .int t), (2, .int s), (1, .int al), (0, .ref 83)], [.int s, .int i, .ref 83], (sh, I, L, R))) (M := mr_193) rfl (show mcode 193 62 = some (62, .iload_n 2, 1, 0, 0, 0, _) from rfl) (Or.inl ⟨.int s, rfl, rfl⟩) ?_
      refine XW.fam (S' := (64, [(4, .int i), (3, .int t), (2, .int s), (1, .int al), (0, .ref 83)], [.int al, .int s, .int i, .ref 83], (sh, I, L, R))) (M := mr_193) rfl (show mcode 193 63 = some (63, .iload_n 1, 1, 0, 0, 0, _) from rfl) (Or.inl ⟨.int al, rfl, rfl⟩) ?_
      refine XW.call (d' := d) (mc' := 0) (ms' := 0) (av := [.ref 83, .int i, .int s, .int al]) (rest := []) (M := mr_193) (Ma := mr_195) rfl (show mcode 193 64 = some (64, .invokevirtual 56, 3, 195, 0, 0, _) from rfl) rfl (by decide) (by decide) ⟨rfl, 83, _, rfl, c83⟩ rfl rfl (show 0 ≤ 8 by decide) (tc_may (d := d) (i := i) (s := s) (al := al) hw (by omega) (by omega)) (by omega) (Nat.zero_le _) (Nat.zero_le _) (fun rQ2 wQ2 Q2 => ?_)
      obtain ⟨hQ2, rfl⟩ := Q2
      rcases hQ2 with ⟨rfl, gQ2⟩ | ⟨rfl, gQ2⟩
      · skip
        refine XW.fam (S' := (93, [(4, .int i), (3, .int t), (2, .int s), (1, .int al), (0, .ref 83)], [], (sh, I, L, R))) (M := mr_193) rfl (show mcode 193 67 = some (67, .ifCond .eq 26, 3, 93, 0, 0, _) from rfl) (Or.inr (Or.inl ⟨93, [], rfl, rfl⟩)) ?_
        refine XW.fam (S' := (96, [(4, .int (i + Int32.ofInt 1)), (3, .int t), (2, .int s), (1, .int al), (0, .ref 83)], [], (sh, I, L, R))) (M := mr_193) rfl (show mcode 193 93 = some (93, .iinc 4 1, 3, 0, 0, 0, _) from rfl) (Or.inr (Or.inr (Or.inr (Or.inr (Or.inr (Or.inr (Or.inr (Or.inr (Or.inr ⟨4, 1, i, rfl, rfl, by decide, rfl⟩))))))))) ?_
        refine XW.fam (S' := (50, [(4, .int (i + Int32.ofInt 1)), (3, .int t), (2, .int s), (1, .int al), (0, .ref 83)], [], (sh, I, L, R))) (M := mr_193) rfl (show mcode 193 96 = some (96, .goto (-46), 3, 50, 0, 0, _) from rfl) (Or.inr (Or.inl ⟨50, [], rfl, rfl⟩)) ?_
        have eo := incO (m := i) (by omega) (by omega)
        have en : (i + Int32.ofInt 1).toInt.toNat = i.toInt.toNat + 1 := by omega
        have hoA := okA_eq (A := J 87) (n := m) (al := al) (s := s) (i := i) (by omega) hal
        have e87 : J 87 (i).toNatClampNeg = I 87 (i).toNatClampNeg := (hkp 87 _ (by decide)).symm
        rw [e87] at hoA
        refine XW.sub (ls' := [(4, .int (i + Int32.ofInt 1)), (3, .int t), (2, .int s), (1, .int al), (0, .ref 83)]) (List.forall_mem_cons.mpr ⟨List.mem_of_getElem? (i := 0) rfl, (List.forall_mem_cons.mpr ⟨List.mem_of_getElem? (i := 1) rfl, (List.forall_mem_cons.mpr ⟨List.mem_of_getElem? (i := 2) rfl, (List.forall_mem_cons.mpr ⟨List.mem_of_getElem? (i := 3) rfl, (List.forall_mem_cons.mpr ⟨List.mem_of_getElem? (i := 4) rfl, (fun _ h => absurd h List.not_mem_nil)⟩)⟩)⟩)⟩)⟩) ?_
        refine ih (i + Int32.ofInt 1) (by omega) (by omega) (by omega) hw hf hkp hab ?_ K
        have efn := bFI_no (I := J) (qd := 85) (qb := 86) (qa := 87) (n := m) (s := s.toInt.toNat) (i := i.toInt.toNat) (fun q => gQ2 ⟨q.1, hoA.mp q.2⟩)
        rw [en, lmn_no (f := bFI J 85 86 87 m s.toInt.toNat) (n := i.toInt.toNat) efn]
        exact hin
      · skip
        refine XW.fam (S' := (70, [(4, .int i), (3, .int t), (2, .int s), (1, .int al), (0, .ref 83)], [], (sh, I, L, R))) (M := mr_193) rfl (show mcode 193 67 = some (67, .ifCond .eq 26, 3, 93, 0, 0, _) from rfl) (Or.inr (Or.inl ⟨70, [], rfl, rfl⟩)) ?_
        refine XW.fam (S' := (71, [(4, .int i), (3, .int t), (2, .int s), (1, .int al), (0, .ref 83)], [.ref 83], (sh, I, L, R))) (M := mr_193) rfl (show mcode 193 70 = some (70, .aload_n 0, 1, 0, 0, 0, _) from rfl) (Or.inl ⟨.ref 83, rfl, rfl⟩) ?_
        refine XW.fam (S' := (74, [(4, .int i), (3, .int t), (2, .int s), (1, .int al), (0, .ref 83)], [.ref 88], (sh, I, L, R))) (M := mr_193) rfl (show mcode 193 71 = some (71, .getfield 24, 3, 10, 6, 0, _) from rfl) (Or.inr (Or.inr (Or.inr (Or.inr (Or.inr (Or.inr (Or.inr (Or.inl ⟨_, _, rfl, fl_ld c83 r83_6 (by decide) (by decide), rfl⟩)))))))) ?_
        refine XW.fam (S' := (75, [(4, .int i), (3, .int t), (2, .int s), (1, .int al), (0, .ref 83)], [.int s, .ref 88], (sh, I, L, R))) (M := mr_193) rfl (show mcode 193 74 = some (74, .iload_n 2, 1, 0, 0, 0, _) from rfl) (Or.inl ⟨.int s, rfl, rfl⟩) ?_
        refine XW.fam (S' := (76, [(4, .int i), (3, .int t), (2, .int s), (1, .int al), (0, .ref 83)], [.ref 83, .int s, .ref 88], (sh, I, L, R))) (M := mr_193) rfl (show mcode 193 75 = some (75, .aload_n 0, 1, 0, 0, 0, _) from rfl) (Or.inl ⟨.ref 83, rfl, rfl⟩) ?_
        refine XW.fam (S' := (79, [(4, .int i), (3, .int t), (2, .int s), (1, .int al), (0, .ref 83)], [.ref 88, .int s, .ref 88], (sh, I, L, R))) (M := mr_193) rfl (show mcode 193 76 = some (76, .getfield 24, 3, 10, 6, 0, _) from rfl) (Or.inr (Or.inr (Or.inr (Or.inr (Or.inr (Or.inr (Or.inr (Or.inl ⟨_, _, rfl, fl_ld c83 r83_6 (by decide) (by decide), rfl⟩)))))))) ?_
        refine XW.fam (S' := (80, [(4, .int i), (3, .int t), (2, .int s), (1, .int al), (0, .ref 83)], [.int s, .ref 88, .int s, .ref 88], (sh, I, L, R))) (M := mr_193) rfl (show mcode 193 79 = some (79, .iload_n 2, 1, 0, 0, 0, _) from rfl) (Or.inl ⟨.int s, rfl, rfl⟩) ?_
        have hin3 : inR s 256 = true := inR_of (by omega) (by omega)
        refine XW.fam (S' := (81, [(4, .int i), (3, .int t), (2, .int s), (1, .int al), (0, .ref 83)], [.int (I 88 (s).toNatClampNeg), .int s, .ref 88], (sh, I, L, R))) (M := mr_193) rfl (show mcode 193 80 = some (80, .iaload, 1, 0, 0, 0, _) from rfl) (Or.inr (Or.inr (Or.inl ⟨_, lda_i c88 hin3, rfl⟩))) ?_
        refine XW.fam (S' := (82, [(4, .int i), (3, .int t), (2, .int s), (1, .int al), (0, .ref 83)], [.ref 83, .int (I 88 (s).toNatClampNeg), .int s, .ref 88], (sh, I, L, R))) (M := mr_193) rfl (show mcode 193 81 = some (81, .aload_n 0, 1, 0, 0, 0, _) from rfl) (Or.inl ⟨.ref 83, rfl, rfl⟩) ?_
        refine XW.fam (S' := (84, [(4, .int i), (3, .int t), (2, .int s), (1, .int al), (0, .ref 83)], [.int i, .ref 83, .int (I 88 (s).toNatClampNeg), .int s, .ref 88], (sh, I, L, R))) (M := mr_193) rfl (show mcode 193 82 = some (82, .iload 4, 2, 0, 0, 0, _) from rfl) (Or.inl ⟨.int i, rfl, rfl⟩) ?_
        refine XW.fam (S' := (85, [(4, .int i), (3, .int t), (2, .int s), (1, .int al), (0, .ref 83)], [.int s, .int i, .ref 83, .int (I 88 (s).toNatClampNeg), .int s, .ref 88], (sh, I, L, R))) (M := mr_193) rfl (show mcode 193 84 = some (84, .iload_n 2, 1, 0, 0, 0, _) from rfl) (Or.inl ⟨.int s, rfl, rfl⟩) ?_
        refine XW.fam (S' := (86, [(4, .int i), (3, .int t), (2, .int s), (1, .int al), (0, .ref 83)], [.int t, .int s, .int i, .ref 83, .int (I 88 (s).toNatClampNeg), .int s, .ref 88], (sh, I, L, R))) (M := mr_193) rfl (show mcode 193 85 = some (85, .iload_n 3, 1, 0, 0, 0, _) from rfl) (Or.inl ⟨.int t, rfl, rfl⟩) ?_
        have hfit := bt_fit (n := m.toInt.toNat) (s := s.toInt.toNat) (i := i.toInt.toNat) (by omega) (by omega) (by omega) gQ2.1
        have hpp := @pow_pos2 i.toInt.toNat
        have eab := hab (s.toInt.toNat + 2 ^ i.toInt.toNat) (by omega) hfit
        have hEr := EE_rng (n := m.toInt.toNat) (D := rI J 85) (B := rI J 86) (ok := okA (J 87) m) (by omega) hJ5 hJ6 256 (s.toInt.toNat + 2 ^ i.toInt.toNat) hfit (by omega)
        have hEr : 0 ≤ EEI J 85 86 87 m (s.toInt.toNat + 2 ^ i.toInt.toNat) ∧ (EEI J 85 86 87 m (s.toInt.toNat + 2 ^ i.toInt.toNat) = 100000000 ∨ EEI J 85 86 87 m (s.toInt.toNat + 2 ^ i.toInt.toNat) ≤ 179820 * (256 : Nat)) := hEr
        refine XW.call (d' := d) (mc' := 0) (ms' := 0) (av := [.ref 83, .int i, .int s, .int t]) (rest := [.int (I 88 (s).toNatClampNeg), .int s, .ref 88]) (M := mr_193) (Ma := mr_196) rfl (show mcode 193 86 = some (86, .invokevirtual 59, 3, 196, 0, 0, _) from rfl) rfl (by decide) (by decide) ⟨rfl, 83, _, rfl, c83⟩ rfl rfl (show 3 ≤ 8 by decide) (tc_with (d := d) (i := i) (s := s) (t := t) hw (by omega) (by omega) gQ2.1 (by omega) (by omega) (fun k hk => by rw [hk, eab]; omega)) (by omega) (Nat.zero_le _) (Nat.zero_le _) (fun rQ4 wQ4 Q4 => ?_)
        obtain ⟨⟨x, rfl, hx⟩, rfl⟩ := Q4
        refine XW.call (d' := d) (mc' := 0) (ms' := 0) (av := [.int (I 88 (s).toNatClampNeg), .int x]) (rest := [.int s, .ref 88]) (M := mr_193) (Ma := mr_21) rfl (show mcode 193 89 = some (89, .invokestatic 63, 3, 21, 0, 0, _) from rfl) rfl (by decide) (by decide) rfl rfl rfl (show 2 ≤ 8 by decide) (tc_min) (by omega) (Nat.zero_le _) (Nat.zero_le _) (fun rQ5 wQ5 Q5 => ?_)
        obtain ⟨rfl, rfl⟩ := Q5
        obtain ⟨mn, emn⟩ : ∃ z : Int32, z = (if x < (I 88 (s).toNatClampNeg) then x else (I 88 (s).toNatClampNeg)) := ⟨_, rfl⟩
        rw [← emn]
        have tmn := minI emn
        have hin6 : inR s 256 = true := inR_of (by omega) (by omega)
        obtain ⟨I7, eI7⟩ : ∃ X, X = up2 I 88 (s).toNatClampNeg mn := ⟨_, rfl⟩
        refine XW.fam (S' := (93, [(4, .int i), (3, .int t), (2, .int s), (1, .int al), (0, .ref 83)], [], (sh, I7, L, R))) (M := mr_193) rfl (show mcode 193 92 = some (92, .iastore, 1, 0, 0, 0, _) from rfl) (Or.inr (Or.inr (Or.inr (Or.inl ⟨_, _, by rw [eI7]; exact sta_i c88 hin6, rfl⟩)))) ?_
        have hl0 := lmn_le (f := bFI J 85 86 87 m s.toInt.toNat) (n := i.toInt.toNat)
        have hin8 : (I 88 (s).toNatClampNeg).toInt = lmn (bFI J 85 86 87 m s.toInt.toNat) i.toInt.toNat := hin
        have xb := i32b mn
        unfold lo32 hi32 at xb
        have tmn2 : mn.toInt ≤ 100000000 := by
          split at tmn <;> omega
        have hwI7 : wOK (mkT vV []) (wE sh R) (sh, I7, L, R) := by rw [eI7]; exact wOK_u2 (q := 88) (k := (s).toNatClampNeg) (x := mn) wE_put hw rfl (by show ((-2147483648) : Int) ≤ _; omega) (by show _ ≤ (100000000 : Int); omega)
        have hfI7 : fresh (sh, I7, L, R) := by rw [eI7]; exact fresh_I hf c88
        have v8 : I7 83 1 = m := by rw [eI7, up2_ne (fun e => by cases e.1)]; exact vm
        have v9 : I7 88 (s).toNatClampNeg = mn := by rw [eI7]; exact up2_eq
        refine XW.fam (S' := (96, [(4, .int (i + Int32.ofInt 1)), (3, .int t), (2, .int s), (1, .int al), (0, .ref 83)], [], (sh, I7, L, R))) (M := mr_193) rfl (show mcode 193 93 = some (93, .iinc 4 1, 3, 0, 0, 0, _) from rfl) (Or.inr (Or.inr (Or.inr (Or.inr (Or.inr (Or.inr (Or.inr (Or.inr (Or.inr ⟨4, 1, i, rfl, rfl, by decide, rfl⟩))))))))) ?_
        refine XW.fam (S' := (50, [(4, .int (i + Int32.ofInt 1)), (3, .int t), (2, .int s), (1, .int al), (0, .ref 83)], [], (sh, I7, L, R))) (M := mr_193) rfl (show mcode 193 96 = some (96, .goto (-46), 3, 50, 0, 0, _) from rfl) (Or.inr (Or.inl ⟨50, [], rfl, rfl⟩)) ?_
        have eo := incO (m := i) (by omega) (by omega)
        have en : (i + Int32.ofInt 1).toInt.toNat = i.toInt.toNat + 1 := by omega
        have hoA := okA_eq (A := J 87) (n := m) (al := al) (s := s) (i := i) (by omega) hal
        have e87 : J 87 (i).toNatClampNeg = I 87 (i).toNatClampNeg := (hkp 87 _ (by decide)).symm
        rw [e87] at hoA
        refine XW.sub (ls' := [(4, .int (i + Int32.ofInt 1)), (3, .int t), (2, .int s), (1, .int al), (0, .ref 83)]) (List.forall_mem_cons.mpr ⟨List.mem_of_getElem? (i := 0) rfl, (List.forall_mem_cons.mpr ⟨List.mem_of_getElem? (i := 1) rfl, (List.forall_mem_cons.mpr ⟨List.mem_of_getElem? (i := 2) rfl, (List.forall_mem_cons.mpr ⟨List.mem_of_getElem? (i := 3) rfl, (List.forall_mem_cons.mpr ⟨List.mem_of_getElem? (i := 4) rfl, (fun _ h => absurd h List.not_mem_nil)⟩)⟩)⟩)⟩)⟩) ?_
        have ek : (s).toNatClampNeg = s.toInt.toNat := rfl
        refine ih (i + Int32.ofInt 1) (by omega) (by omega) (by omega) hwI7 hfI7 (fun q k hq => by rw [eI7, up2_ne (fun e => hq e.1)]; exact hkp q k hq) (fun u h1 h2 => ?_) ?_ K
        · rw [eI7, up2_ne (fun e => by have := e.2; omega)]
          exact hab u h1 h2
        · have ef := bFI_yes (I := J) (qd := 85) (qb := 86) (qa := 87) (n := m) (s := s.toInt.toNat) (i := i.toInt.toNat) ⟨gQ2.1, hoA.mpr gQ2.2⟩
          have e1 : (I7 88 s.toInt.toNat).toInt = mn.toInt := by
            rw [eI7]
            show (up2 I 88 s.toInt.toNat mn 88 s.toInt.toNat).toInt = _
            rw [up2_eq]
          have hin9 : (I 88 (s).toNatClampNeg).toInt = lmn (bFI J 85 86 87 m s.toInt.toNat) i.toInt.toNat := hin
          rw [en, e1, tmn, hx, hin9]
          show _ = (if bFI J 85 86 87 m s.toInt.toNat i.toInt.toNat < lmn (bFI J 85 86 87 m s.toInt.toNat) i.toInt.toNat then bFI J 85 86 87 m s.toInt.toNat i.toInt.toNat else lmn (bFI J 85 86 87 m s.toInt.toNat) i.toInt.toNat)
          rw [ef, eab, ht, hkp 86 i.toInt.toNat (by decide), hkp 85 i.toInt.toNat (by decide)]
theorem plan_out {d : Nat} {sh : List mE} {J : Nat → Nat → Int32} {L : Nat → Nat → Int64} {R : Nat → Nat → Option Nat} {m : Int32} {al : Int32} (hm : 1 ≤ m.toInt ∧ m.toInt ≤ 8) (em : J 83 1 = m) (hal : (1 <<< (m &&& 31)) - 1 = al) (hal2 : al.toInt + 1 = ((2 ^ m.toInt.toNat : Nat) : Int)) (hJ5 : ∀ k, 0 ≤ (J 85 k).toInt ∧ (J 85 k).toInt ≤ 20) (hJ6 : ∀ k, 0 ≤ (J 86 k).toInt ∧ (J 86 k).toInt ≤ 999) {Q : Option Value → mW → Prop} : ∀ (z : Nat) {I : Nat → Nat → Int32} (s : Int32), -1 ≤ s.toInt → s.toInt + 1 < ((2 ^ m.toInt.toNat : Nat) : Int) → s.toInt + 1 < z → wOK (mkT vV []) (wE sh R) (sh, I, L, R) → fresh (sh, I, L, R) → (∀ q k, ¬ q = 88 → I q k = J q k) → (∀ u : Nat, s.toInt < u → u < 2 ^ m.toInt.toNat → (I 88 u).toInt = EEI J 85 86 87 m u) → (∀ {I : Nat → Nat → Int32}, wOK (mkT vV []) (wE sh R) (sh, I, L, R) → fresh (sh, I, L, R) → (∀ q k, ¬ q = 88 → I q k = J q k) → (∀ u : Nat, u < 2 ^ m.toInt.toNat → (I 88 u).toInt = EEI J 85 86 87 m u) → ∀ s : Int32, XW 193 mr_193 none (d + 43) 0 0 Q (105, [(2, .int s), (1, .int al), (0, .ref 83)], [], (sh, I, L, R))) → XW 193 mr_193 none (d + 43) 0 0 Q (29, [(2, .int s), (1, .int al), (0, .ref 83)], [], (sh, I, L, R)) := by
  have z0 : (0 : Int32).toInt = 0 := rfl
  have z100000000 : (100000000 : Int32).toInt = 100000000 := rfl
  have p8 := pow8 (n := m.toInt.toNat) (by omega)
  intro z
  induction z with
  | zero =>
    intro I s h1 h2 hz
    exfalso
    omega
  | succ z ih =>
    intro I s h1 h2 hz hw hf hkp hab K
    have c83 : sh[83]? = some (.inr 10) := hw.1 83 _ rfl
    have c88 : sh[88]? = some (.inl (.int, 256)) := hw.1 88 _ rfl
    have r83_6 : R 83 6 = some 88 := hw.2.1 83 6 _ rfl
    have vm : I 83 1 = m := (hkp 83 1 (by decide)).trans em
    refine XW.fam (S' := (30, [(2, .int s), (1, .int al), (0, .ref 83)], [.int s], (sh, I, L, R))) (M := mr_193) rfl (show mcode 193 29 = some (29, .iload_n 2, 1, 0, 0, 0, _) from rfl) (Or.inl ⟨.int s, rfl, rfl⟩) ?_
    cases k1 : bcmp .lt s 0 with
    | true =>
      have gk1 : (s).toInt < 0 := icT (c := .lt) (a := (s).toInt) (b := 0) rfl (by decide) k1
      refine XW.fam (S' := (105, [(2, .int s), (1, .int al), (0, .ref 83)], [], (sh, I, L, R))) (M := mr_193) rfl (show mcode 193 30 = some (30, .ifCond .lt 75, 3, 105, 0, 0, _) from rfl) (Or.inr (Or.inl ⟨105, [], by simp [brn, k1], rfl⟩)) ?_
      exact K hw hf hkp (fun u h => hab u (by omega) h) s
    | false =>
      have gk1 : ¬ ((s).toInt < 0) := icF (c := .lt) (a := (s).toInt) (b := 0) rfl (by decide) k1
      refine XW.fam (S' := (33, [(2, .int s), (1, .int al), (0, .ref 83)], [], (sh, I, L, R))) (M := mr_193) rfl (show mcode 193 30 = some (30, .ifCond .lt 75, 3, 105, 0, 0, _) from rfl) (Or.inr (Or.inl ⟨33, [], by simp [brn, k1], rfl⟩)) ?_
      refine XW.fam (S' := (34, [(2, .int s), (1, .int al), (0, .ref 83)], [.ref 83], (sh, I, L, R))) (M := mr_193) rfl (show mcode 193 33 = some (33, .aload_n 0, 1, 0, 0, 0, _) from rfl) (Or.inl ⟨.ref 83, rfl, rfl⟩) ?_
      refine XW.fam (S' := (37, [(2, .int s), (1, .int al), (0, .ref 83)], [.ref 88], (sh, I, L, R))) (M := mr_193) rfl (show mcode 193 34 = some (34, .getfield 24, 3, 10, 6, 0, _) from rfl) (Or.inr (Or.inr (Or.inr (Or.inr (Or.inr (Or.inr (Or.inr (Or.inl ⟨_, _, rfl, fl_ld c83 r83_6 (by decide) (by decide), rfl⟩)))))))) ?_
      refine XW.fam (S' := (38, [(2, .int s), (1, .int al), (0, .ref 83)], [.int s, .ref 88], (sh, I, L, R))) (M := mr_193) rfl (show mcode 193 37 = some (37, .iload_n 2, 1, 0, 0, 0, _) from rfl) (Or.inl ⟨.int s, rfl, rfl⟩) ?_
      refine XW.fam (S' := (40, [(2, .int s), (1, .int al), (0, .ref 83)], [.int 100000000, .int s, .ref 88], (sh, I, L, R))) (M := mr_193) rfl (show mcode 193 38 = some (38, .ldc 51, 2, 0, 0, 100000000, _) from rfl) (Or.inr (Or.inr (Or.inr (Or.inr (Or.inl ⟨.int 100000000, rfl, rfl⟩))))) ?_
      have hin2 : inR s 256 = true := inR_of (by omega) (by omega)
      obtain ⟨I3, eI3⟩ : ∃ X, X = up2 I 88 (s).toNatClampNeg 100000000 := ⟨_, rfl⟩
      refine XW.fam (S' := (41, [(2, .int s), (1, .int al), (0, .ref 83)], [], (sh, I3, L, R))) (M := mr_193) rfl (show mcode 193 40 = some (40, .iastore, 1, 0, 0, 0, _) from rfl) (Or.inr (Or.inr (Or.inr (Or.inl ⟨_, _, by rw [eI3]; exact sta_i c88 hin2, rfl⟩)))) ?_
      have hwI3 : wOK (mkT vV []) (wE sh R) (sh, I3, L, R) := by rw [eI3]; exact wOK_u2 (q := 88) (k := (s).toNatClampNeg) (x := 100000000) wE_put hw rfl (by show ((-2147483648) : Int) ≤ _; omega) (by show _ ≤ (100000000 : Int); omega)
      have hfI3 : fresh (sh, I3, L, R) := by rw [eI3]; exact fresh_I hf c88
      have v4 : I3 83 1 = m := by rw [eI3, up2_ne (fun e => by cases e.1)]; exact vm
      have v5 : I3 88 (s).toNatClampNeg = 100000000 := by rw [eI3]; exact up2_eq
      refine XW.fam (S' := (42, [(2, .int s), (1, .int al), (0, .ref 83)], [.ref 83], (sh, I3, L, R))) (M := mr_193) rfl (show mcode 193 41 = some (41, .aload_n 0, 1, 0, 0, 0, _) from rfl) (Or.inl ⟨.ref 83, rfl, rfl⟩) ?_
      refine XW.fam (S' := (43, [(2, .int s), (1, .int al), (0, .ref 83)], [.int s, .ref 83], (sh, I3, L, R))) (M := mr_193) rfl (show mcode 193 42 = some (42, .iload_n 2, 1, 0, 0, 0, _) from rfl) (Or.inl ⟨.int s, rfl, rfl⟩) ?_
      refine XW.call (d' := d) (mc' := 0) (ms' := 0) (av := [.ref 83, .int s]) (rest := []) (M := mr_193) (Ma := mr_194) rfl (show mcode 193 43 = some (43, .invokevirtual 52, 3, 194, 0, 0, _) from rfl) rfl (by decide) (by decide) ⟨rfl, 83, _, rfl, c83⟩ rfl rfl (show 0 ≤ 8 by decide) (tc_time (d := d) (s := s) (m := m) hwI3 (by omega) v4 (by omega)) (by omega) (Nat.zero_le _) (Nat.zero_le _) (fun rQ6 wQ6 Q6 => ?_)
      obtain ⟨⟨t, rfl, ht0⟩, rfl⟩ := Q6
      refine XW.fam (S' := (47, [(3, .int t), (2, .int s), (1, .int al), (0, .ref 83)], [], (sh, I3, L, R))) (M := mr_193) rfl (show mcode 193 46 = some (46, .istore_n 3, 1, 0, 0, 0, _) from rfl) (Or.inr (Or.inr (Or.inr (Or.inr (Or.inr (Or.inr (Or.inl ⟨_, [], _, rfl, rfl, rfl⟩))))))) ?_
      refine XW.fam (S' := (48, [(3, .int t), (2, .int s), (1, .int al), (0, .ref 83)], [.int 0], (sh, I3, L, R))) (M := mr_193) rfl (show mcode 193 47 = some (47, .iconst 0, 1, 0, 0, 0, _) from rfl) (Or.inl ⟨.int 0, rfl, rfl⟩) ?_
      refine XW.fam (S' := (50, [(4, .int 0), (3, .int t), (2, .int s), (1, .int al), (0, .ref 83)], [], (sh, I3, L, R))) (M := mr_193) rfl (show mcode 193 48 = some (48, .istore 4, 2, 0, 0, 0, _) from rfl) (Or.inr (Or.inr (Or.inr (Or.inr (Or.inr (Or.inr (Or.inl ⟨_, [], _, rfl, rfl, rfl⟩))))))) ?_
      have ek : (s).toNatClampNeg = s.toInt.toNat := rfl
      have e85 : rI I3 85 = rI J 85 := by
        funext k
        unfold rI
        rw [eI3, up2_ne (fun e => by cases e.1), hkp 85 k (by decide)]
      rw [e85] at ht0
      refine XW.sub (ls' := [(4, .int 0), (3, .int t), (2, .int s), (1, .int al), (0, .ref 83)]) (List.forall_mem_cons.mpr ⟨List.mem_of_getElem? (i := 0) rfl, (List.forall_mem_cons.mpr ⟨List.mem_of_getElem? (i := 1) rfl, (List.forall_mem_cons.mpr ⟨List.mem_of_getElem? (i := 2) rfl, (List.forall_mem_cons.mpr ⟨List.mem_of_getElem? (i := 3) rfl, (List.forall_mem_cons.mpr ⟨List.mem_of_getElem? (i := 4) rfl, (fun _ h => absurd h List.not_mem_nil)⟩)⟩)⟩)⟩)⟩) ?_
      refine plan_in (d := d) hm em hal hal2 hJ5 hJ6 (by omega) ht0 9 0 (by decide) (by omega) (by omega) hwI3 hfI3 (fun q k hq => by rw [eI3, up2_ne (fun e => hq e.1)]; exact hkp q k hq) (fun u h1 h2 => ?_) ?_ (fun {I2} hw2 hf2 hkp2 hab2 hin2 i => ?_)
      · rw [eI3, up2_ne (fun e => by have := e.2; omega)]
        exact hab u (by omega) h2
      · rw [eI3, ← ek, up2_eq]
        rfl
      · have vm2 : I2 83 1 = m := (hkp2 83 1 (by decide)).trans em
        refine XW.fam (S' := (102, [(2, .int (s + Int32.ofInt (-1))), (4, .int i), (3, .int t), (1, .int al), (0, .ref 83)], [], (sh, I2, L, R))) (M := mr_193) rfl (show mcode 193 99 = some (99, .iinc 2 (-1), 3, 0, 0, 0, _) from rfl) (Or.inr (Or.inr (Or.inr (Or.inr (Or.inr (Or.inr (Or.inr (Or.inr (Or.inr ⟨2, (-1), s, rfl, rfl, by decide, rfl⟩))))))))) ?_
        refine XW.fam (S' := (29, [(2, .int (s + Int32.ofInt (-1))), (4, .int i), (3, .int t), (1, .int al), (0, .ref 83)], [], (sh, I2, L, R))) (M := mr_193) rfl (show mcode 193 102 = some (102, .goto (-73), 3, 29, 0, 0, _) from rfl) (Or.inr (Or.inl ⟨29, [], rfl, rfl⟩)) ?_
        obtain ⟨s9, es9⟩ : ∃ z : Int32, s + Int32.ofInt (-1) = z := ⟨_, rfl⟩
        have eo : s9.toInt = s.toInt - 1 := by rw [← es9]; exact decO (by omega) (by omega)
        rw [es9]
        clear es9
        refine XW.sub (ls' := [(2, .int s9), (1, .int al), (0, .ref 83)]) (List.forall_mem_cons.mpr ⟨List.mem_of_getElem? (i := 0) rfl, (List.forall_mem_cons.mpr ⟨List.mem_of_getElem? (i := 3) rfl, (List.forall_mem_cons.mpr ⟨List.mem_of_getElem? (i := 4) rfl, (fun _ h => absurd h List.not_mem_nil)⟩)⟩)⟩) ?_
        refine ih s9 (by omega) (by omega) (by omega) hw2 hf2 hkp2 (fun u h1 h2 => ?_) K
        by_cases e : u = s.toInt.toNat
        · rw [e, hin2]
          exact (EEI_step (by omega) (by omega)).symm
        · exact hab2 u (by omega) h2
def mdBC : aM := [(83, some 1), (83, some 7), (88, none), (89, none)]
def mdBM : aM := [(94, some 92), (94, some 99), (94, some 100), (94, some 101), (160, none), (161, none)]
theorem inm_no {q k : Nat} (h : inm mdBC q k = false) : inm [(83, some 7), (89, none)] q k = false := by
  unfold inm at h ⊢
  rw [List.any_eq_false] at h ⊢
  intro e he
  refine h e ?_
  rcases List.mem_cons.mp he with rfl | he
  · exact List.mem_of_getElem? (i := 1) rfl
  · rcases List.mem_singleton.mp he with rfl
    exact List.mem_of_getElem? (i := 3) rfl
/-- bread: none told; or the least bread, or none -/
def Qbr (qn kn qd qb qa : Nat) (md : aM) (w : mW) (r : Option Value) (w' : mW) : Prop := fresh w' ∧ (∃ sh R, wOK (mkT vV []) (wE sh R) w') ∧ (∃ y : Int32, r = some (.int y) ∧ y.toInt = (if (w.2.1 qn kn).toInt = 0 then -1 else if EEI w.2.1 qd qb qa (w.2.1 qn kn) 0 < 100000000 then EEI w.2.1 qd qb qa (w.2.1 qn kn) 0 else -2)) ∧ w'.2.1 qn kn = 0 ∧ ∀ q k, inm md q k = false → w'.2.1 q k = w.2.1 q k
theorem tc_plan {d : Nat} {sh : List mE} {I : Nat → Nat → Int32} {L : Nat → Nat → Int64} {R : Nat → Nat → Option Nat} (hw : wOK (mkT vV []) (wE sh R) (sh, I, L, R)) (hf : fresh (sh, I, L, R)) : Tc 193 (d + 43) 0 0 [.ref 83] (sh, I, L, R) (Qbr 83 1 85 86 87 mdBC (sh, I, L, R)) := by
  have c83 : sh[83]? = some (.inr 10) := hw.1 83 _ rfl
  have c88 : sh[88]? = some (.inl (.int, 256)) := hw.1 88 _ rfl
  have r83_6 : R 83 6 = some 88 := hw.2.1 83 6 _ rfl
  have zm2 : ((-2) : Int32).toInt = (-2) := rfl
  have zm1 : ((-1) : Int32).toInt = (-1) := rfl
  have z0 : (0 : Int32).toInt = 0 := rfl
  have z1 : (1 : Int32).toInt = 1 := rfl
  have z100000000 : (100000000 : Int32).toInt = 100000000 := rfl
  have hm : 0 ≤ (I 83 1).toInt ∧ (I 83 1).toInt ≤ 8 := hw.2.2.1 83 1
  obtain ⟨m, em⟩ : ∃ m, I 83 1 = m := ⟨_, rfl⟩
  rw [em] at hm
  have p8 := pow8 (n := m.toInt.toNat) (by omega)
  refine Tc.of mr_193 rfl (show 1 ≤ mr_193.2.2.2.1 by decide) ?_
  refine XW.fam (S' := (1, [(0, .ref 83)], [.ref 83], (sh, I, L, R))) (M := mr_193) rfl (show mcode 193 0 = some (0, .aload_n 0, 1, 0, 0, 0, _) from rfl) (Or.inl ⟨.ref 83, rfl, rfl⟩) ?_
  refine XW.fam (S' := (4, [(0, .ref 83)], [.int (I 83 1)], (sh, I, L, R))) (M := mr_193) rfl (show mcode 193 1 = some (1, .getfield 47, 3, 10, 1, 0, _) from rfl) (Or.inr (Or.inr (Or.inr (Or.inr (Or.inr (Or.inr (Or.inr (Or.inl ⟨_, _, rfl, fl_ldI c83 (by decide) (by decide), rfl⟩)))))))) ?_
  rw [em]
  cases k1 : bcmp .ne m 0 with
  | true =>
    have gk1 : ¬ (m).toInt = 0 := icT (c := .ne) (a := (m).toInt) (b := 0) rfl (by decide) k1
    refine XW.fam (S' := (9, [(0, .ref 83)], [], (sh, I, L, R))) (M := mr_193) rfl (show mcode 193 4 = some (4, .ifCond .ne 5, 3, 9, 0, 0, _) from rfl) (Or.inr (Or.inl ⟨9, [], by simp [brn, k1], rfl⟩)) ?_
    refine XW.fam (S' := (10, [(0, .ref 83)], [.int 1], (sh, I, L, R))) (M := mr_193) rfl (show mcode 193 9 = some (9, .iconst 1, 1, 0, 0, 0, _) from rfl) (Or.inl ⟨.int 1, rfl, rfl⟩) ?_
    refine XW.fam (S' := (11, [(0, .ref 83)], [.ref 83, .int 1], (sh, I, L, R))) (M := mr_193) rfl (show mcode 193 10 = some (10, .aload_n 0, 1, 0, 0, 0, _) from rfl) (Or.inl ⟨.ref 83, rfl, rfl⟩) ?_
    refine XW.fam (S' := (14, [(0, .ref 83)], [.int (I 83 1), .int 1], (sh, I, L, R))) (M := mr_193) rfl (show mcode 193 11 = some (11, .getfield 47, 3, 10, 1, 0, _) from rfl) (Or.inr (Or.inr (Or.inr (Or.inr (Or.inr (Or.inr (Or.inr (Or.inl ⟨_, _, rfl, fl_ldI c83 (by decide) (by decide), rfl⟩)))))))) ?_
    rw [em]
    refine XW.fam (S' := (15, [(0, .ref 83)], [.int (1 <<< (m &&& 31))], (sh, I, L, R))) (M := mr_193) rfl (show mcode 193 14 = some (14, .ishl, 1, 0, 0, 0, _) from rfl) (Or.inr (Or.inr (Or.inr (Or.inr (Or.inr (Or.inl ⟨_, rfl, rfl⟩)))))) ?_
    refine XW.fam (S' := (16, [(0, .ref 83)], [.int 1, .int (1 <<< (m &&& 31))], (sh, I, L, R))) (M := mr_193) rfl (show mcode 193 15 = some (15, .iconst 1, 1, 0, 0, 0, _) from rfl) (Or.inl ⟨.int 1, rfl, rfl⟩) ?_
    refine XW.fam (S' := (17, [(0, .ref 83)], [.int ((1 <<< (m &&& 31)) - 1)], (sh, I, L, R))) (M := mr_193) rfl (show mcode 193 16 = some (16, .isub, 1, 0, 0, 0, _) from rfl) (Or.inr (Or.inr (Or.inr (Or.inr (Or.inr (Or.inl ⟨_, rfl, rfl⟩)))))) ?_
    refine XW.fam (S' := (18, [(1, .int ((1 <<< (m &&& 31)) - 1)), (0, .ref 83)], [], (sh, I, L, R))) (M := mr_193) rfl (show mcode 193 17 = some (17, .istore_n 1, 1, 0, 0, 0, _) from rfl) (Or.inr (Or.inr (Or.inr (Or.inr (Or.inr (Or.inr (Or.inl ⟨_, [], _, rfl, rfl, rfl⟩))))))) ?_
    obtain ⟨al, hal⟩ : ∃ z : Int32, ((1 <<< (m &&& 31)) - 1) = z := ⟨_, rfl⟩
    have hal2 : al.toInt + 1 = ((2 ^ m.toInt.toNat : Nat) : Int) := by
      have e1 : (1 : Int32).toInt = 1 := rfl
      have e2 := b_shl (i := m) (by omega)
      have e3 := difS (a := 1 <<< (m &&& 31)) (b := 1) (by omega) (by omega)
      rw [← hal]
      omega
    rw [hal]
    have p2 : 2 ^ 1 ≤ 2 ^ m.toInt.toNat := Nat.pow_le_pow_right (by decide) (by omega)
    refine XW.fam (S' := (19, [(1, .int al), (0, .ref 83)], [.ref 83], (sh, I, L, R))) (M := mr_193) rfl (show mcode 193 18 = some (18, .aload_n 0, 1, 0, 0, 0, _) from rfl) (Or.inl ⟨.ref 83, rfl, rfl⟩) ?_
    refine XW.fam (S' := (22, [(1, .int al), (0, .ref 83)], [.ref 88], (sh, I, L, R))) (M := mr_193) rfl (show mcode 193 19 = some (19, .getfield 24, 3, 10, 6, 0, _) from rfl) (Or.inr (Or.inr (Or.inr (Or.inr (Or.inr (Or.inr (Or.inr (Or.inl ⟨_, _, rfl, fl_ld c83 r83_6 (by decide) (by decide), rfl⟩)))))))) ?_
    refine XW.fam (S' := (23, [(1, .int al), (0, .ref 83)], [.int al, .ref 88], (sh, I, L, R))) (M := mr_193) rfl (show mcode 193 22 = some (22, .iload_n 1, 1, 0, 0, 0, _) from rfl) (Or.inl ⟨.int al, rfl, rfl⟩) ?_
    refine XW.fam (S' := (24, [(1, .int al), (0, .ref 83)], [.int 0, .int al, .ref 88], (sh, I, L, R))) (M := mr_193) rfl (show mcode 193 23 = some (23, .iconst 0, 1, 0, 0, 0, _) from rfl) (Or.inl ⟨.int 0, rfl, rfl⟩) ?_
    have hin2 : inR al 256 = true := inR_of (by omega) (by omega)
    obtain ⟨I3, eI3⟩ : ∃ X, X = up2 I 88 (al).toNatClampNeg 0 := ⟨_, rfl⟩
    refine XW.fam (S' := (25, [(1, .int al), (0, .ref 83)], [], (sh, I3, L, R))) (M := mr_193) rfl (show mcode 193 24 = some (24, .iastore, 1, 0, 0, 0, _) from rfl) (Or.inr (Or.inr (Or.inr (Or.inl ⟨_, _, by rw [eI3]; exact sta_i c88 hin2, rfl⟩)))) ?_
    have hwI3 : wOK (mkT vV []) (wE sh R) (sh, I3, L, R) := by rw [eI3]; exact wOK_u2 (q := 88) (k := (al).toNatClampNeg) (x := 0) wE_put hw rfl (by show ((-2147483648) : Int) ≤ _; omega) (by show _ ≤ (100000000 : Int); omega)
    have hfI3 : fresh (sh, I3, L, R) := by rw [eI3]; exact fresh_I hf c88
    have v4 : I3 83 1 = m := by rw [eI3, up2_ne (fun e => by cases e.1)]; exact em
    have v5 : I3 88 (al).toNatClampNeg = 0 := by rw [eI3]; exact up2_eq
    refine XW.fam (S' := (26, [(1, .int al), (0, .ref 83)], [.int al], (sh, I3, L, R))) (M := mr_193) rfl (show mcode 193 25 = some (25, .iload_n 1, 1, 0, 0, 0, _) from rfl) (Or.inl ⟨.int al, rfl, rfl⟩) ?_
    refine XW.fam (S' := (27, [(1, .int al), (0, .ref 83)], [.int 1, .int al], (sh, I3, L, R))) (M := mr_193) rfl (show mcode 193 26 = some (26, .iconst 1, 1, 0, 0, 0, _) from rfl) (Or.inl ⟨.int 1, rfl, rfl⟩) ?_
    refine XW.fam (S' := (28, [(1, .int al), (0, .ref 83)], [.int (al - 1)], (sh, I3, L, R))) (M := mr_193) rfl (show mcode 193 27 = some (27, .isub, 1, 0, 0, 0, _) from rfl) (Or.inr (Or.inr (Or.inr (Or.inr (Or.inr (Or.inl ⟨_, rfl, rfl⟩)))))) ?_
    refine XW.fam (S' := (29, [(2, .int (al - 1)), (1, .int al), (0, .ref 83)], [], (sh, I3, L, R))) (M := mr_193) rfl (show mcode 193 28 = some (28, .istore_n 2, 1, 0, 0, 0, _) from rfl) (Or.inr (Or.inr (Or.inr (Or.inr (Or.inr (Or.inr (Or.inl ⟨_, [], _, rfl, rfl, rfl⟩))))))) ?_
    have hs1 := sub1I (m := al) (by omega) (by omega)
    obtain ⟨s, es⟩ : ∃ z : Int32, (al - 1) = z := ⟨_, rfl⟩
    rw [es] at hs1 ⊢
    clear es
    refine XW.sub (ls' := [(2, .int s), (1, .int al), (0, .ref 83)]) (List.forall_mem_cons.mpr ⟨List.mem_of_getElem? (i := 0) rfl, (List.forall_mem_cons.mpr ⟨List.mem_of_getElem? (i := 1) rfl, (List.forall_mem_cons.mpr ⟨List.mem_of_getElem? (i := 2) rfl, (fun _ h => absurd h List.not_mem_nil)⟩)⟩)⟩) ?_
    have hE85 : EEI I3 85 86 87 m = EEI I 85 86 87 m := by
      unfold EEI
      have a1 : rI I3 85 = rI I 85 := by funext k; unfold rI; rw [eI3, up2_ne (fun e => by cases e.1)]
      have a2 : rI I3 86 = rI I 86 := by funext k; unfold rI; rw [eI3, up2_ne (fun e => by cases e.1)]
      have a3 : I3 87 = I 87 := by funext k; rw [eI3, up2_ne (fun e => by cases e.1)]
      funext u
      rw [a1, a2, a3]
    refine plan_out (d := d) (J := I3) (al := al) (by omega) v4 hal hal2 (fun k => hwI3.2.2.1 85 k) (fun k => hwI3.2.2.1 86 k) 257 s (by omega) (by omega) (by omega) hwI3 hfI3 (fun _ _ _ => rfl) (fun u h1 h2 => ?_) (fun {I2} hw2 hf2 hkp2 hab2 s2 => ?_)
    · have eu : u = al.toInt.toNat := by omega
      have eu1 : u + 1 = 2 ^ m.toInt.toNat := by omega
      rw [eI3, eu]
      show (up2 I 88 al.toInt.toNat 0 88 al.toInt.toNat).toInt = _
      rw [up2_eq, ← eu]
      exact (EE_full eu1).symm
    · have h0 := hab2 0 (by omega)
      rw [hE85] at h0
      have vm2 : I2 83 1 = m := (hkp2 83 1 (by decide)).trans v4
      have hEr := (EE_rng (n := m.toInt.toNat) (D := rI I 85) (B := rI I 86) (ok := okA (I 87) m) (by omega) (fun k => hw.2.2.1 85 k) (fun k => hw.2.2.1 86 k) 256 0 (by omega) (by omega)).1
      have hEr : 0 ≤ EEI I 85 86 87 m 0 := hEr
      refine XW.fam (S' := (106, [(2, .int s2), (1, .int al), (0, .ref 83)], [.ref 83], (sh, I2, L, R))) (M := mr_193) rfl (show mcode 193 105 = some (105, .aload_n 0, 1, 0, 0, 0, _) from rfl) (Or.inl ⟨.ref 83, rfl, rfl⟩) ?_
      refine XW.fam (S' := (109, [(2, .int s2), (1, .int al), (0, .ref 83)], [.ref 88], (sh, I2, L, R))) (M := mr_193) rfl (show mcode 193 106 = some (106, .getfield 24, 3, 10, 6, 0, _) from rfl) (Or.inr (Or.inr (Or.inr (Or.inr (Or.inr (Or.inr (Or.inr (Or.inl ⟨_, _, rfl, fl_ld c83 r83_6 (by decide) (by decide), rfl⟩)))))))) ?_
      refine XW.fam (S' := (110, [(2, .int s2), (1, .int al), (0, .ref 83)], [.int 0, .ref 88], (sh, I2, L, R))) (M := mr_193) rfl (show mcode 193 109 = some (109, .iconst 0, 1, 0, 0, 0, _) from rfl) (Or.inl ⟨.int 0, rfl, rfl⟩) ?_
      have hin6 : inR 0 256 = true := inR_of (by omega) (by omega)
      refine XW.fam (S' := (111, [(2, .int s2), (1, .int al), (0, .ref 83)], [.int (I2 88 (0 : Int32).toNatClampNeg)], (sh, I2, L, R))) (M := mr_193) rfl (show mcode 193 110 = some (110, .iaload, 1, 0, 0, 0, _) from rfl) (Or.inr (Or.inr (Or.inl ⟨_, lda_i c88 hin6, rfl⟩))) ?_
      obtain ⟨b0, eb0⟩ : ∃ z, I2 88 (0 : Int32).toNatClampNeg = z := ⟨_, rfl⟩
      rw [eb0]
      have eb1 : I2 88 0 = b0 := eb0
      rw [eb1] at h0
      refine XW.fam (S' := (112, [(2, .int b0), (1, .int al), (0, .ref 83)], [], (sh, I2, L, R))) (M := mr_193) rfl (show mcode 193 111 = some (111, .istore_n 2, 1, 0, 0, 0, _) from rfl) (Or.inr (Or.inr (Or.inr (Or.inr (Or.inr (Or.inr (Or.inl ⟨_, [], _, rfl, rfl, rfl⟩))))))) ?_
      refine XW.fam (S' := (113, [(2, .int b0), (1, .int al), (0, .ref 83)], [.int b0], (sh, I2, L, R))) (M := mr_193) rfl (show mcode 193 112 = some (112, .iload_n 2, 1, 0, 0, 0, _) from rfl) (Or.inl ⟨.int b0, rfl, rfl⟩) ?_
      refine XW.fam (S' := (115, [(2, .int b0), (1, .int al), (0, .ref 83)], [.int 100000000, .int b0], (sh, I2, L, R))) (M := mr_193) rfl (show mcode 193 113 = some (113, .ldc 51, 2, 0, 0, 100000000, _) from rfl) (Or.inr (Or.inr (Or.inr (Or.inr (Or.inl ⟨.int 100000000, rfl, rfl⟩))))) ?_
      cases k7 : bcmp .ge b0 100000000 with
      | true =>
        have gk7 : 100000000 ≤ (b0).toInt := icT (c := .ge) (a := (b0).toInt) (b := 100000000) rfl (by decide) k7
        refine XW.fam (S' := (123, [(2, .int b0), (1, .int al), (0, .ref 83)], [], (sh, I2, L, R))) (M := mr_193) rfl (show mcode 193 115 = some (115, .if_icmp .ge 8, 3, 123, 0, 0, _) from rfl) (Or.inr (Or.inl ⟨123, [], by simp [brn, k7], rfl⟩)) ?_
        refine XW.fam (S' := (124, [(2, .int b0), (1, .int al), (0, .ref 83)], [.ref 83], (sh, I2, L, R))) (M := mr_193) rfl (show mcode 193 123 = some (123, .aload_n 0, 1, 0, 0, 0, _) from rfl) (Or.inl ⟨.ref 83, rfl, rfl⟩) ?_
        refine XW.fam (S' := (125, [(2, .int b0), (1, .int al), (0, .ref 83)], [.int 0, .ref 83], (sh, I2, L, R))) (M := mr_193) rfl (show mcode 193 124 = some (124, .iconst 0, 1, 0, 0, 0, _) from rfl) (Or.inl ⟨.int 0, rfl, rfl⟩) ?_
        obtain ⟨I8, eI8⟩ : ∃ X, X = up2 I2 83 1 0 := ⟨_, rfl⟩
        refine XW.fam (S' := (128, [(2, .int b0), (1, .int al), (0, .ref 83)], [], (sh, I8, L, R))) (M := mr_193) rfl (show mcode 193 125 = some (125, .putfield 47, 3, 10, 1, 0, _) from rfl) (Or.inr (Or.inr (Or.inr (Or.inr (Or.inr (Or.inr (Or.inr (Or.inr (Or.inl ⟨_, _, _, rfl, by rw [eI8]; exact stf_I c83 (by decide) (by decide) (by decide), rfl⟩))))))))) ?_
        have hwI8 : wOK (mkT vV []) (wE sh R) (sh, I8, L, R) := by rw [eI8]; exact wOK_u2 (q := 83) (k := 1) (x := 0) wE_put hw2 rfl (by show (0 : Int) ≤ _; omega) (by show _ ≤ (8 : Int); omega)
        have hfI8 : fresh (sh, I8, L, R) := by rw [eI8]; exact fresh_I hf2 c83
        have v10 : I8 83 1 = 0 := by rw [eI8]; exact up2_eq
        refine XW.fam (S' := (129, [(2, .int b0), (1, .int al), (0, .ref 83)], [.int b0], (sh, I8, L, R))) (M := mr_193) rfl (show mcode 193 128 = some (128, .iload_n 2, 1, 0, 0, 0, _) from rfl) (Or.inl ⟨.int b0, rfl, rfl⟩) ?_
        refine XW.fam (S' := (131, [(2, .int b0), (1, .int al), (0, .ref 83)], [.int 100000000, .int b0], (sh, I8, L, R))) (M := mr_193) rfl (show mcode 193 129 = some (129, .ldc 51, 2, 0, 0, 100000000, _) from rfl) (Or.inr (Or.inr (Or.inr (Or.inr (Or.inl ⟨.int 100000000, rfl, rfl⟩))))) ?_
        cases k11 : bcmp .ge b0 100000000 with
        | true =>
          have gk11 : 100000000 ≤ (b0).toInt := icT (c := .ge) (a := (b0).toInt) (b := 100000000) rfl (by decide) k11
          refine XW.fam (S' := (138, [(2, .int b0), (1, .int al), (0, .ref 83)], [], (sh, I8, L, R))) (M := mr_193) rfl (show mcode 193 131 = some (131, .if_icmp .ge 7, 3, 138, 0, 0, _) from rfl) (Or.inr (Or.inl ⟨138, [], by simp [brn, k11], rfl⟩)) ?_
          refine XW.fam (S' := (140, [(2, .int b0), (1, .int al), (0, .ref 83)], [.int (-2)], (sh, I8, L, R))) (M := mr_193) rfl (show mcode 193 138 = some (138, .bipush (-2), 2, 0, 0, 0, _) from rfl) (Or.inl ⟨.int (-2), rfl, rfl⟩) ?_
          refine XW.ret (r := some (.int (-2))) ⟨⟨.int, rfl, rfl⟩, by decide +kernel⟩ ?_
          have hkq : ∀ q k, inm mdBC q k = false → I8 q k = I q k := by
            intro q k h
            rw [eI8, up2_ne (fun e => by rw [e.1, e.2] at h; cases h)]
            rw [hkp2 q k (fun e => by rw [e] at h; cases h), eI3, up2_ne (fun e => by rw [e.1] at h; cases h)]
          refine ⟨hfI8, ⟨sh, R, hwI8⟩, ⟨_, rfl, ?_⟩, ?_, hkq⟩
          · show _ = (if (I 83 1).toInt = 0 then _ else if EEI I 85 86 87 (I 83 1) 0 < 100000000 then EEI I 85 86 87 (I 83 1) 0 else _)
            rw [em, if_neg (by omega)]
            rw [if_neg (by omega)]
            rfl
          · show I8 83 1 = 0
            rw [eI8, up2_eq]
        | false =>
          have gk11 : ¬ (100000000 ≤ (b0).toInt) := icF (c := .ge) (a := (b0).toInt) (b := 100000000) rfl (by decide) k11
          refine XW.fam (S' := (134, [(2, .int b0), (1, .int al), (0, .ref 83)], [], (sh, I8, L, R))) (M := mr_193) rfl (show mcode 193 131 = some (131, .if_icmp .ge 7, 3, 138, 0, 0, _) from rfl) (Or.inr (Or.inl ⟨134, [], by simp [brn, k11], rfl⟩)) ?_
          refine XW.fam (S' := (135, [(2, .int b0), (1, .int al), (0, .ref 83)], [.int b0], (sh, I8, L, R))) (M := mr_193) rfl (show mcode 193 134 = some (134, .iload_n 2, 1, 0, 0, 0, _) from rfl) (Or.inl ⟨.int b0, rfl, rfl⟩) ?_
          refine XW.fam (S' := (140, [(2, .int b0), (1, .int al), (0, .ref 83)], [.int b0], (sh, I8, L, R))) (M := mr_193) rfl (show mcode 193 135 = some (135, .goto 5, 3, 140, 0, 0, _) from rfl) (Or.inr (Or.inl ⟨140, [.int b0], rfl, rfl⟩)) ?_
          refine XW.ret (r := some (.int b0)) ⟨⟨.int, rfl, rfl⟩, by decide +kernel⟩ ?_
          have hkq : ∀ q k, inm mdBC q k = false → I8 q k = I q k := by
            intro q k h
            rw [eI8, up2_ne (fun e => by rw [e.1, e.2] at h; cases h)]
            rw [hkp2 q k (fun e => by rw [e] at h; cases h), eI3, up2_ne (fun e => by rw [e.1] at h; cases h)]
          refine ⟨hfI8, ⟨sh, R, hwI8⟩, ⟨_, rfl, ?_⟩, ?_, hkq⟩
          · show _ = (if (I 83 1).toInt = 0 then _ else if EEI I 85 86 87 (I 83 1) 0 < 100000000 then EEI I 85 86 87 (I 83 1) 0 else _)
            rw [em, if_neg (by omega)]
            rw [if_pos (by omega)]
            exact h0
          · show I8 83 1 = 0
            rw [eI8, up2_eq]
      | false =>
        have gk7 : ¬ (100000000 ≤ (b0).toInt) := icF (c := .ge) (a := (b0).toInt) (b := 100000000) rfl (by decide) k7
        refine XW.fam (S' := (118, [(2, .int b0), (1, .int al), (0, .ref 83)], [], (sh, I2, L, R))) (M := mr_193) rfl (show mcode 193 115 = some (115, .if_icmp .ge 8, 3, 123, 0, 0, _) from rfl) (Or.inr (Or.inl ⟨118, [], by simp [brn, k7], rfl⟩)) ?_
        refine XW.fam (S' := (119, [(2, .int b0), (1, .int al), (0, .ref 83)], [.ref 83], (sh, I2, L, R))) (M := mr_193) rfl (show mcode 193 118 = some (118, .aload_n 0, 1, 0, 0, 0, _) from rfl) (Or.inl ⟨.ref 83, rfl, rfl⟩) ?_
        refine XW.fam (S' := (120, [(2, .int b0), (1, .int al), (0, .ref 83)], [.int al, .ref 83], (sh, I2, L, R))) (M := mr_193) rfl (show mcode 193 119 = some (119, .iload_n 1, 1, 0, 0, 0, _) from rfl) (Or.inl ⟨.int al, rfl, rfl⟩) ?_
        refine XW.call (d' := 42) (mc' := 0) (ms' := 0) (av := [.ref 83, .int al]) (rest := []) (M := mr_193) (Ma := mr_197) rfl (show mcode 193 120 = some (120, .invokevirtual 69, 3, 197, 0, 0, _) from rfl) rfl (by decide) (by decide) ⟨rfl, 83, _, rfl, c83⟩ rfl rfl (show 0 ≤ 8 by decide) (kk_201 [.ref 83, .int al] (sh, I2, L, R) hw2 ⟨rfl, ⟨al, rfl, show (1 : Int) ≤ al.toInt by omega, show al.toInt ≤ (255 : Int) by omega⟩, trivial⟩ (fun q hq => by cases hq) hf2) (by omega) (Nat.zero_le _) (Nat.zero_le _) (fun rQ12 wQ12 Q12 => ?_)
        obtain ⟨hfQ12, hwQ12, hIQ12, hrQ12, -⟩ := Q12
        obtain rfl : rQ12 = none := hrQ12
        obtain ⟨shQ12, IQ12, LQ12, RQ12⟩ := wQ12
        obtain rfl : sh = shQ12 := hwQ12.2.2.2.1.symm
        obtain rfl : R = RQ12 := hwQ12.2.2.2.2.1.symm
        refine XW.fam (S' := (124, [(2, .int b0), (1, .int al), (0, .ref 83)], [.ref 83], (sh, IQ12, LQ12, R))) (M := mr_193) rfl (show mcode 193 123 = some (123, .aload_n 0, 1, 0, 0, 0, _) from rfl) (Or.inl ⟨.ref 83, rfl, rfl⟩) ?_
        refine XW.fam (S' := (125, [(2, .int b0), (1, .int al), (0, .ref 83)], [.int 0, .ref 83], (sh, IQ12, LQ12, R))) (M := mr_193) rfl (show mcode 193 124 = some (124, .iconst 0, 1, 0, 0, 0, _) from rfl) (Or.inl ⟨.int 0, rfl, rfl⟩) ?_
        obtain ⟨I13, eI13⟩ : ∃ X, X = up2 IQ12 83 1 0 := ⟨_, rfl⟩
        refine XW.fam (S' := (128, [(2, .int b0), (1, .int al), (0, .ref 83)], [], (sh, I13, LQ12, R))) (M := mr_193) rfl (show mcode 193 125 = some (125, .putfield 47, 3, 10, 1, 0, _) from rfl) (Or.inr (Or.inr (Or.inr (Or.inr (Or.inr (Or.inr (Or.inr (Or.inr (Or.inl ⟨_, _, _, rfl, by rw [eI13]; exact stf_I c83 (by decide) (by decide) (by decide), rfl⟩))))))))) ?_
        have hwI13 : wOK (mkT vV []) (wE sh R) (sh, I13, LQ12, R) := by rw [eI13]; exact wOK_u2 (q := 83) (k := 1) (x := 0) wE_put hwQ12 rfl (by show (0 : Int) ≤ _; omega) (by show _ ≤ (8 : Int); omega)
        have hfI13 : fresh (sh, I13, LQ12, R) := by rw [eI13]; exact fresh_I hfQ12 c83
        have v14 : I13 83 1 = 0 := by rw [eI13]; exact up2_eq
        refine XW.fam (S' := (129, [(2, .int b0), (1, .int al), (0, .ref 83)], [.int b0], (sh, I13, LQ12, R))) (M := mr_193) rfl (show mcode 193 128 = some (128, .iload_n 2, 1, 0, 0, 0, _) from rfl) (Or.inl ⟨.int b0, rfl, rfl⟩) ?_
        refine XW.fam (S' := (131, [(2, .int b0), (1, .int al), (0, .ref 83)], [.int 100000000, .int b0], (sh, I13, LQ12, R))) (M := mr_193) rfl (show mcode 193 129 = some (129, .ldc 51, 2, 0, 0, 100000000, _) from rfl) (Or.inr (Or.inr (Or.inr (Or.inr (Or.inl ⟨.int 100000000, rfl, rfl⟩))))) ?_
        cases k15 : bcmp .ge b0 100000000 with
        | true =>
          have gk15 : 100000000 ≤ (b0).toInt := icT (c := .ge) (a := (b0).toInt) (b := 100000000) rfl (by decide) k15
          refine XW.fam (S' := (138, [(2, .int b0), (1, .int al), (0, .ref 83)], [], (sh, I13, LQ12, R))) (M := mr_193) rfl (show mcode 193 131 = some (131, .if_icmp .ge 7, 3, 138, 0, 0, _) from rfl) (Or.inr (Or.inl ⟨138, [], by simp [brn, k15], rfl⟩)) ?_
          refine XW.fam (S' := (140, [(2, .int b0), (1, .int al), (0, .ref 83)], [.int (-2)], (sh, I13, LQ12, R))) (M := mr_193) rfl (show mcode 193 138 = some (138, .bipush (-2), 2, 0, 0, 0, _) from rfl) (Or.inl ⟨.int (-2), rfl, rfl⟩) ?_
          refine XW.ret (r := some (.int (-2))) ⟨⟨.int, rfl, rfl⟩, by decide +kernel⟩ ?_
          have hkq : ∀ q k, inm mdBC q k = false → I13 q k = I q k := by
            intro q k h
            rw [eI13, up2_ne (fun e => by rw [e.1, e.2] at h; cases h), (show IQ12 q k = I2 q k from hIQ12 q k (inm_no h))]
            rw [hkp2 q k (fun e => by rw [e] at h; cases h), eI3, up2_ne (fun e => by rw [e.1] at h; cases h)]
          refine ⟨hfI13, ⟨sh, R, hwI13⟩, ⟨_, rfl, ?_⟩, ?_, hkq⟩
          · show _ = (if (I 83 1).toInt = 0 then _ else if EEI I 85 86 87 (I 83 1) 0 < 100000000 then EEI I 85 86 87 (I 83 1) 0 else _)
            rw [em, if_neg (by omega)]
            rw [if_neg (by omega)]
            rfl
          · show I13 83 1 = 0
            rw [eI13, up2_eq]
        | false =>
          have gk15 : ¬ (100000000 ≤ (b0).toInt) := icF (c := .ge) (a := (b0).toInt) (b := 100000000) rfl (by decide) k15
          refine XW.fam (S' := (134, [(2, .int b0), (1, .int al), (0, .ref 83)], [], (sh, I13, LQ12, R))) (M := mr_193) rfl (show mcode 193 131 = some (131, .if_icmp .ge 7, 3, 138, 0, 0, _) from rfl) (Or.inr (Or.inl ⟨134, [], by simp [brn, k15], rfl⟩)) ?_
          refine XW.fam (S' := (135, [(2, .int b0), (1, .int al), (0, .ref 83)], [.int b0], (sh, I13, LQ12, R))) (M := mr_193) rfl (show mcode 193 134 = some (134, .iload_n 2, 1, 0, 0, 0, _) from rfl) (Or.inl ⟨.int b0, rfl, rfl⟩) ?_
          refine XW.fam (S' := (140, [(2, .int b0), (1, .int al), (0, .ref 83)], [.int b0], (sh, I13, LQ12, R))) (M := mr_193) rfl (show mcode 193 135 = some (135, .goto 5, 3, 140, 0, 0, _) from rfl) (Or.inr (Or.inl ⟨140, [.int b0], rfl, rfl⟩)) ?_
          refine XW.ret (r := some (.int b0)) ⟨⟨.int, rfl, rfl⟩, by decide +kernel⟩ ?_
          have hkq : ∀ q k, inm mdBC q k = false → I13 q k = I q k := by
            intro q k h
            rw [eI13, up2_ne (fun e => by rw [e.1, e.2] at h; cases h), (show IQ12 q k = I2 q k from hIQ12 q k (inm_no h))]
            rw [hkp2 q k (fun e => by rw [e] at h; cases h), eI3, up2_ne (fun e => by rw [e.1] at h; cases h)]
          refine ⟨hfI13, ⟨sh, R, hwI13⟩, ⟨_, rfl, ?_⟩, ?_, hkq⟩
          · show _ = (if (I 83 1).toInt = 0 then _ else if EEI I 85 86 87 (I 83 1) 0 < 100000000 then EEI I 85 86 87 (I 83 1) 0 else _)
            rw [em, if_neg (by omega)]
            rw [if_pos (by omega)]
            exact h0
          · show I13 83 1 = 0
            rw [eI13, up2_eq]
  | false =>
    have gk1 : ¬ (¬ (m).toInt = 0) := icF (c := .ne) (a := (m).toInt) (b := 0) rfl (by decide) k1
    refine XW.fam (S' := (7, [(0, .ref 83)], [], (sh, I, L, R))) (M := mr_193) rfl (show mcode 193 4 = some (4, .ifCond .ne 5, 3, 9, 0, 0, _) from rfl) (Or.inr (Or.inl ⟨7, [], by simp [brn, k1], rfl⟩)) ?_
    refine XW.fam (S' := (8, [(0, .ref 83)], [.int (-1)], (sh, I, L, R))) (M := mr_193) rfl (show mcode 193 7 = some (7, .iconst (-1), 1, 0, 0, 0, _) from rfl) (Or.inl ⟨.int (-1), rfl, rfl⟩) ?_
    refine XW.ret (r := some (.int (-1))) ⟨⟨.int, rfl, rfl⟩, by decide +kernel⟩ ?_
    exact ⟨hf, ⟨sh, R, hw⟩, ⟨_, rfl, by show _ = (if (I 83 1).toInt = 0 then _ else _); rw [em, if_pos (by omega)]; rfl⟩, show I 83 1 = 0 by rw [em]; exact Int32.toInt_inj.mp (by omega), fun _ _ _ => rfl⟩
theorem tc_breadC {d : Nat} {sh : List mE} {R : Nat → Nat → Option Nat} {w : mW} (hw : wOK (mkT vV []) (wE sh R) w) (hf : fresh w) : Tc 192 (d + 44) 0 0 [.ref 0] w (Qbr 83 1 85 86 87 mdBC w) := by
  obtain ⟨sh0, I, L, R0⟩ := w
  obtain rfl : sh = sh0 := hw.2.2.2.1.symm
  obtain rfl : R = R0 := hw.2.2.2.2.1.symm
  have c0 : sh[0]? = some (.inr 0) := hw.1 0 _ rfl
  have c83 : sh[83]? = some (.inr 10) := hw.1 83 _ rfl
  have r0_9 : R 0 9 = some 83 := hw.2.1 0 9 _ rfl
  refine Tc.of mr_192 rfl (show 1 ≤ mr_192.2.2.2.1 by decide) ?_
  refine XW.fam (S' := (1, [(0, .ref 0)], [.ref 0], (sh, I, L, R))) (M := mr_192) rfl (show mcode 192 0 = some (0, .aload_n 0, 1, 0, 0, 0, _) from rfl) (Or.inl ⟨.ref 0, rfl, rfl⟩) ?_
  refine XW.fam (S' := (4, [(0, .ref 0)], [.ref 83], (sh, I, L, R))) (M := mr_192) rfl (show mcode 192 1 = some (1, .getfield 85, 3, 0, 9, 0, _) from rfl) (Or.inr (Or.inr (Or.inr (Or.inr (Or.inr (Or.inr (Or.inr (Or.inl ⟨_, _, rfl, fl_ld c0 r0_9 (by decide) (by decide), rfl⟩)))))))) ?_
  refine XW.call (d' := d + 43) (mc' := 0) (ms' := 0) (av := [.ref 83]) (rest := []) (M := mr_192) (Ma := mr_193) rfl (show mcode 192 4 = some (4, .invokevirtual 302, 3, 193, 0, 0, _) from rfl) rfl (by decide) (by decide) ⟨rfl, 83, _, rfl, c83⟩ rfl rfl (show 0 ≤ 8 by decide) (tc_plan (d := d) hw hf) (by omega) (Nat.zero_le _) (Nat.zero_le _) (fun rQ1 wQ1 Q1 => ?_)
  obtain ⟨yQ1, eyQ1, -⟩ := Q1.2.2.1
  subst eyQ1
  refine XW.ret (r := some (.int yQ1)) ⟨⟨.int, rfl, rfl⟩, by decide +kernel⟩ ?_
  exact Q1
