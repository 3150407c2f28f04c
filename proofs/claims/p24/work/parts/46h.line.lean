/-! ===== line: what both sides reckon; our side (wip/genline4.py) ===== -/
theorem XW.sub {j : Nat} {M : mMt} {X : mX} {d mc ms : Nat} {Q : Option Value → mW → Prop} {pc : Nat} {ls ls' : mL} {st : List Value} {w : mW} (h : ∀ q ∈ ls', q ∈ ls) (K : XW j M X d mc ms Q (pc, ls', st, w)) : XW j M X d mc ms Q (pc, ls, st, w) := by
  intro D base xa p l e R s m args below meth c Z H locs cells slots lsA cA hC hfr hlo hce hsl hH hL hl hret
  refine K D base xa p l e R s m args below meth c Z H locs cells slots lsA cA hC hfr hlo hce hsl hH hL ⟨hl.1, hl.2.1, fun q hq => ?_⟩ hret
  unfold trl at hq
  obtain ⟨p', hp, rfl⟩ := List.mem_map.mp hq
  exact hl.2.2 _ (List.mem_map.mpr ⟨p', h p' hp, rfl⟩)
theorem sumS {a b : Int32} (ha : -1000000000 ≤ a.toInt ∧ a.toInt ≤ 1000000000) (hb : -1000000000 ≤ b.toInt ∧ b.toInt ≤ 1000000000) : (a + b).toInt = a.toInt + b.toInt := by
  rw [Int32.toInt_add]
  exact bm32 (by unfold lo32; omega) (by unfold hi32; omega)
theorem difS {a b : Int32} (ha : -1000000000 ≤ a.toInt ∧ a.toInt ≤ 1000000000) (hb : -1000000000 ≤ b.toInt ∧ b.toInt ≤ 1000000000) : (a - b).toInt = a.toInt - b.toInt := by
  rw [Int32.toInt_sub]
  exact bm32 (by unfold lo32; omega) (by unfold hi32; omega)
theorem decO {m : Int32} (h0 : -100000 ≤ m.toInt) (h1 : m.toInt ≤ 100000) : (m + Int32.ofInt (-1)).toInt = m.toInt - 1 := by
  have e : (Int32.ofInt (-1)).toInt = -1 := rfl
  rw [Int32.toInt_add, e]
  exact bm32 (by unfold lo32; omega) (by unfold hi32; omega)
theorem ix8c {a b : Int32} (ha : 0 ≤ a.toInt ∧ a.toInt ≤ 4) (hb : 0 ≤ b.toInt ∧ b.toInt ≤ 7) : (a * 8 + b).toInt = 8 * a.toInt + b.toInt := by
  have e : (8 : Int32).toInt = 8 := rfl
  have m : (a * 8).toInt = a.toInt * 8 := by
    rw [Int32.toInt_mul, e]
    exact bm32 (by unfold lo32; omega) (by unfold hi32; omega)
  have s : (a * 8 + b).toInt = a.toInt * 8 + b.toInt := by
    rw [Int32.toInt_add, m]
    exact bm32 (by unfold lo32; omega) (by unfold hi32; omega)
  omega
theorem ix8d {a b : Int32} (ha : 0 ≤ a.toInt ∧ a.toInt ≤ 4) (hb : 0 ≤ b.toInt ∧ b.toInt ≤ 7) : (8 * a + b).toInt = 8 * a.toInt + b.toInt := by
  have e : (8 : Int32).toInt = 8 := rfl
  have m : (8 * a).toInt = 8 * a.toInt := by
    rw [Int32.toInt_mul, e]
    exact bm32 (by unfold lo32; omega) (by unfold hi32; omega)
  rw [Int32.toInt_add, m]
  exact bm32 (by unfold lo32; omega) (by unfold hi32; omega)
theorem minI {a b z : Int32} (e : z = (if b < a then b else a)) : z.toInt = (if b.toInt < a.toInt then b.toInt else a.toInt) := by
  rw [e]
  by_cases c : b < a
  · rw [if_pos c, if_pos (Int32.lt_iff_toInt_lt.mp c)]
  · rw [if_neg c, if_neg (fun q => c (Int32.lt_iff_toInt_lt.mpr q))]
theorem maxI {a b z : Int32} (e : z = (if a < b then b else a)) : z.toInt = (if a.toInt < b.toInt then b.toInt else a.toInt) := by
  rw [e]
  by_cases c : a < b
  · rw [if_pos c, if_pos (Int32.lt_iff_toInt_lt.mp c)]
  · rw [if_neg c, if_neg (fun q => c (Int32.lt_iff_toInt_lt.mpr q))]
def bsum (F : Nat → Int) : Nat → Int
  | 0 => 0
  | n + 1 => bsum F n + F n
def rmin (f : Nat → Int) : Nat → Int
  | 0 => 1000000
  | n + 1 => if f n < rmin f n then f n else rmin f n
theorem rmin_congr {f g : Nat → Int} : ∀ {n : Nat}, (∀ k, k < n → f k = g k) → rmin f n = rmin g n
  | 0, _ => rfl
  | n + 1, h => by
    have e := rmin_congr (n := n) (fun k hk => h k (by omega))
    show (if f n < rmin f n then f n else rmin f n) = (if g n < rmin g n then g n else rmin g n)
    rw [e, h n (by omega)]
def fallS (h : Nat → Int32) (room : Int) : Nat → Int → Nat × Int
  | 0, c => (0, c)
  | l + 1, c => if c + (h l).toInt ≤ room then fallS h room l (c + (h l).toInt) else (l + 1, c)
theorem fall_rng {h : Nat → Int32} {room : Int} (hh : ∀ k, 0 ≤ (h k).toInt ∧ (h k).toInt ≤ 199) : ∀ {l : Nat} {c : Int}, (fallS h room l c).1 ≤ l ∧ c ≤ (fallS h room l c).2 ∧ (fallS h room l c).2 ≤ c + 199 * l
  | 0, c => ⟨Nat.le_refl _, Int.le_refl _, by show c ≤ c + 199 * ((0 : Nat) : Int); omega⟩
  | l + 1, c => by
    unfold fallS
    have b := hh l
    split
    · have ih := fall_rng (room := room) hh (l := l) (c := c + (h l).toInt)
      omega
    · dsimp only
      omega
def lnB (b : Nat → Int32) (k j : Nat) : Int := (b (8 * k + (if j ≤ 7 then j else 7))).toInt
def lnS (b : Nat → Int32) (week wt k : Nat) : Int := bsum (fun j => lnB b k (week + j)) wt
def lnRoom (b : Nat → Int32) (wt : Nat) (wait : Nat → Int) (week r : Nat) : Int := rmin (fun k => lnS b week wt k - wait k) r
def lnGo (b : Nat → Int32) (week : Nat) (come : Int) (wait : Nat → Int) (k : Nat) : Int := if 0 < wait k + come - lnB b k week then wait k + come - lnB b k week else 0
def lnStep (h b : Nat → Int32) (r wt week : Nat) (s : Nat × (Nat → Int)) : Nat × (Nat → Int) := ((fallS h (lnRoom b wt s.2 week r) s.1 0).1, fun k => if k < r then lnGo b week (fallS h (lnRoom b wt s.2 week r) s.1 0).2 s.2 k else s.2 k)
def lnRun (h b : Nat → Int32) (r wt : Nat) : Nat → Nat × (Nat → Int)
  | 0 => (100, fun _ => 0)
  | n + 1 => lnStep h b r wt n (lnRun h b r wt n)
theorem ln_rng {h b : Nat → Int32} {r wt : Nat} (hh : ∀ k, 0 ≤ (h k).toInt ∧ (h k).toInt ≤ 199) (hb : ∀ k, 0 ≤ (b k).toInt) : ∀ {n : Nat}, (lnRun h b r wt n).1 ≤ 100 ∧ ∀ k, 0 ≤ (lnRun h b r wt n).2 k ∧ (lnRun h b r wt n).2 k ≤ 20000 * n
  | 0 => ⟨Nat.le_refl _, fun k => ⟨Int.le_refl _, by show (0 : Int) ≤ 20000 * ((0 : Nat) : Int); omega⟩⟩
  | n + 1 => by
    obtain ⟨i1, i2⟩ := ln_rng (r := r) (wt := wt) hh hb (n := n)
    have f := fall_rng (room := lnRoom b wt (lnRun h b r wt n).2 n r) hh (l := (lnRun h b r wt n).1) (c := 0)
    refine ⟨?_, fun k => ?_⟩
    · show (fallS h (lnRoom b wt (lnRun h b r wt n).2 n r) (lnRun h b r wt n).1 0).1 ≤ 100
      omega
    · show 0 ≤ (if k < r then lnGo b n (fallS h (lnRoom b wt (lnRun h b r wt n).2 n r) (lnRun h b r wt n).1 0).2 (lnRun h b r wt n).2 k else (lnRun h b r wt n).2 k) ∧ (if k < r then lnGo b n (fallS h (lnRoom b wt (lnRun h b r wt n).2 n r) (lnRun h b r wt n).1 0).2 (lnRun h b r wt n).2 k else (lnRun h b r wt n).2 k) ≤ 20000 * ((n + 1 : Nat) : Int)
      have i := i2 k
      have hB : 0 ≤ lnB b k n := hb _
      split
      · unfold lnGo
        split
        · omega
        · omega
      · omega
theorem room_in {d : Nat} {sh : List mE} {I : Nat → Nat → Int32} {L : Nat → Nat → Int64} {R : Nat → Nat → Option Nat} {wk rw wt row room : Int32} (hw : wOK (mkT vV []) (wE sh R) (sh, I, L, R)) (hk : 0 ≤ wk.toInt ∧ wk.toInt ≤ 7) (hr : 1 ≤ rw.toInt ∧ rw.toInt ≤ 4) (ht : 1 ≤ wt.toInt ∧ wt.toInt ≤ 4) (hrow : 0 ≤ row.toInt ∧ row.toInt ≤ 3) {Q : Option Value → mW → Prop} (K : ∀ t s : Int32, s.toInt = lnS (I 92) wk.toInt.toNat wt.toInt.toNat row.toInt.toNat → 0 ≤ s.toInt → s.toInt ≤ 39996 → XW 206 mr_206 none (d + 1) 0 0 Q (62, [(7, .int t), (6, .int s), (5, .int row), (4, .int room), (0, .ref 90), (1, .int wk), (2, .int rw), (3, .int wt)], [], (sh, I, L, R))) : ∀ (z : Nat) (t s : Int32), wk.toInt ≤ t.toInt → t.toInt ≤ wk.toInt + wt.toInt → wk.toInt + wt.toInt - t.toInt < z → s.toInt = bsum (fun j => lnB (I 92) row.toInt.toNat (wk.toInt.toNat + j)) (t.toInt - wk.toInt).toNat → 0 ≤ s.toInt → s.toInt ≤ 9999 * (t.toInt - wk.toInt) → XW 206 mr_206 none (d + 1) 0 0 Q (25, [(7, .int t), (6, .int s), (5, .int row), (4, .int room), (0, .ref 90), (1, .int wk), (2, .int rw), (3, .int wt)], [], (sh, I, L, R)) := by
  have c90 : sh[90]? = some (.inr 11) := hw.1 90 _ rfl
  have c92 : sh[92]? = some (.inl (.int, 32)) := hw.1 92 _ rfl
  have r90_1 : R 90 1 = some 92 := hw.2.1 90 1 _ rfl
  have z7 : (7 : Int32).toInt = 7 := rfl
  have z8 : (8 : Int32).toInt = 8 := rfl
  have xw : (wk + wt).toInt = wk.toInt + wt.toInt := sumS (by omega) (by omega)
  intro z
  induction z with
  | zero =>
    intro t s h1 h2 hz hs hs0 hs1
    refine XW.fam (S' := (27, [(7, .int t), (6, .int s), (5, .int row), (4, .int room), (0, .ref 90), (1, .int wk), (2, .int rw), (3, .int wt)], [.int t], (sh, I, L, R))) (M := mr_206) rfl (show mcode 206 25 = some (25, .iload 7, 2, 0, 0, 0, _) from rfl) (Or.inl ⟨.int t, rfl, rfl⟩) ?_
    refine XW.fam (S' := (28, [(7, .int t), (6, .int s), (5, .int row), (4, .int room), (0, .ref 90), (1, .int wk), (2, .int rw), (3, .int wt)], [.int wk, .int t], (sh, I, L, R))) (M := mr_206) rfl (show mcode 206 27 = some (27, .iload_n 1, 1, 0, 0, 0, _) from rfl) (Or.inl ⟨.int wk, rfl, rfl⟩) ?_
    refine XW.fam (S' := (29, [(7, .int t), (6, .int s), (5, .int row), (4, .int room), (0, .ref 90), (1, .int wk), (2, .int rw), (3, .int wt)], [.int wt, .int wk, .int t], (sh, I, L, R))) (M := mr_206) rfl (show mcode 206 28 = some (28, .iload_n 3, 1, 0, 0, 0, _) from rfl) (Or.inl ⟨.int wt, rfl, rfl⟩) ?_
    refine XW.fam (S' := (30, [(7, .int t), (6, .int s), (5, .int row), (4, .int room), (0, .ref 90), (1, .int wk), (2, .int rw), (3, .int wt)], [.int (wk + wt), .int t], (sh, I, L, R))) (M := mr_206) rfl (show mcode 206 29 = some (29, .iadd, 1, 0, 0, 0, _) from rfl) (Or.inr (Or.inr (Or.inr (Or.inr (Or.inr (Or.inl ⟨_, rfl, rfl⟩)))))) ?_
    have k1 : bcmp .ge t (wk + wt) = true := bcT (c := .ge) (a := (t).toInt) (b := ((wk + wt)).toInt) rfl rfl (by show ((wk + wt)).toInt ≤ (t).toInt; omega)
    refine XW.fam (S' := (62, [(7, .int t), (6, .int s), (5, .int row), (4, .int room), (0, .ref 90), (1, .int wk), (2, .int rw), (3, .int wt)], [], (sh, I, L, R))) (M := mr_206) rfl (show mcode 206 30 = some (30, .if_icmp .ge 32, 3, 62, 0, 0, _) from rfl) (Or.inr (Or.inl ⟨62, [], by simp [brn, k1], rfl⟩)) ?_
    have en : (t.toInt - wk.toInt).toNat = wt.toInt.toNat := by omega
    rw [en] at hs
    exact K t s hs hs0 (by omega)
  | succ z ih =>
    intro t s h1 h2 hz hs hs0 hs1
    refine XW.fam (S' := (27, [(7, .int t), (6, .int s), (5, .int row), (4, .int room), (0, .ref 90), (1, .int wk), (2, .int rw), (3, .int wt)], [.int t], (sh, I, L, R))) (M := mr_206) rfl (show mcode 206 25 = some (25, .iload 7, 2, 0, 0, 0, _) from rfl) (Or.inl ⟨.int t, rfl, rfl⟩) ?_
    refine XW.fam (S' := (28, [(7, .int t), (6, .int s), (5, .int row), (4, .int room), (0, .ref 90), (1, .int wk), (2, .int rw), (3, .int wt)], [.int wk, .int t], (sh, I, L, R))) (M := mr_206) rfl (show mcode 206 27 = some (27, .iload_n 1, 1, 0, 0, 0, _) from rfl) (Or.inl ⟨.int wk, rfl, rfl⟩) ?_
    refine XW.fam (S' := (29, [(7, .int t), (6, .int s), (5, .int row), (4, .int room), (0, .ref 90), (1, .int wk), (2, .int rw), (3, .int wt)], [.int wt, .int wk, .int t], (sh, I, L, R))) (M := mr_206) rfl (show mcode 206 28 = some (28, .iload_n 3, 1, 0, 0, 0, _) from rfl) (Or.inl ⟨.int wt, rfl, rfl⟩) ?_
    refine XW.fam (S' := (30, [(7, .int t), (6, .int s), (5, .int row), (4, .int room), (0, .ref 90), (1, .int wk), (2, .int rw), (3, .int wt)], [.int (wk + wt), .int t], (sh, I, L, R))) (M := mr_206) rfl (show mcode 206 29 = some (29, .iadd, 1, 0, 0, 0, _) from rfl) (Or.inr (Or.inr (Or.inr (Or.inr (Or.inr (Or.inl ⟨_, rfl, rfl⟩)))))) ?_
    cases k1 : bcmp .ge t (wk + wt) with
    | true =>
      have gk1 : ((wk + wt)).toInt ≤ (t).toInt := icT (c := .ge) (a := (t).toInt) (b := ((wk + wt)).toInt) rfl rfl k1
      refine XW.fam (S' := (62, [(7, .int t), (6, .int s), (5, .int row), (4, .int room), (0, .ref 90), (1, .int wk), (2, .int rw), (3, .int wt)], [], (sh, I, L, R))) (M := mr_206) rfl (show mcode 206 30 = some (30, .if_icmp .ge 32, 3, 62, 0, 0, _) from rfl) (Or.inr (Or.inl ⟨62, [], by simp [brn, k1], rfl⟩)) ?_
      have en : (t.toInt - wk.toInt).toNat = wt.toInt.toNat := by omega
      rw [en] at hs
      exact K t s hs hs0 (by omega)
    | false =>
      have gk1 : ¬ (((wk + wt)).toInt ≤ (t).toInt) := icF (c := .ge) (a := (t).toInt) (b := ((wk + wt)).toInt) rfl rfl k1
      refine XW.fam (S' := (33, [(7, .int t), (6, .int s), (5, .int row), (4, .int room), (0, .ref 90), (1, .int wk), (2, .int rw), (3, .int wt)], [], (sh, I, L, R))) (M := mr_206) rfl (show mcode 206 30 = some (30, .if_icmp .ge 32, 3, 62, 0, 0, _) from rfl) (Or.inr (Or.inl ⟨33, [], by simp [brn, k1], rfl⟩)) ?_
      refine XW.fam (S' := (35, [(7, .int t), (6, .int s), (5, .int row), (4, .int room), (0, .ref 90), (1, .int wk), (2, .int rw), (3, .int wt)], [.int s], (sh, I, L, R))) (M := mr_206) rfl (show mcode 206 33 = some (33, .iload 6, 2, 0, 0, 0, _) from rfl) (Or.inl ⟨.int s, rfl, rfl⟩) ?_
      refine XW.fam (S' := (36, [(7, .int t), (6, .int s), (5, .int row), (4, .int room), (0, .ref 90), (1, .int wk), (2, .int rw), (3, .int wt)], [.ref 90, .int s], (sh, I, L, R))) (M := mr_206) rfl (show mcode 206 35 = some (35, .aload_n 0, 1, 0, 0, 0, _) from rfl) (Or.inl ⟨.ref 90, rfl, rfl⟩) ?_
      refine XW.fam (S' := (39, [(7, .int t), (6, .int s), (5, .int row), (4, .int room), (0, .ref 90), (1, .int wk), (2, .int rw), (3, .int wt)], [.ref 92, .int s], (sh, I, L, R))) (M := mr_206) rfl (show mcode 206 36 = some (36, .getfield 15, 3, 11, 1, 0, _) from rfl) (Or.inr (Or.inr (Or.inr (Or.inr (Or.inr (Or.inr (Or.inr (Or.inl ⟨_, _, rfl, fl_ld c90 r90_1 (by decide) (by decide), rfl⟩)))))))) ?_
      refine XW.fam (S' := (41, [(7, .int t), (6, .int s), (5, .int row), (4, .int room), (0, .ref 90), (1, .int wk), (2, .int rw), (3, .int wt)], [.int row, .ref 92, .int s], (sh, I, L, R))) (M := mr_206) rfl (show mcode 206 39 = some (39, .iload 5, 2, 0, 0, 0, _) from rfl) (Or.inl ⟨.int row, rfl, rfl⟩) ?_
      refine XW.fam (S' := (43, [(7, .int t), (6, .int s), (5, .int row), (4, .int room), (0, .ref 90), (1, .int wk), (2, .int rw), (3, .int wt)], [.int 8, .int row, .ref 92, .int s], (sh, I, L, R))) (M := mr_206) rfl (show mcode 206 41 = some (41, .bipush 8, 2, 0, 0, 0, _) from rfl) (Or.inl ⟨.int 8, rfl, rfl⟩) ?_
      refine XW.fam (S' := (44, [(7, .int t), (6, .int s), (5, .int row), (4, .int room), (0, .ref 90), (1, .int wk), (2, .int rw), (3, .int wt)], [.int (row * 8), .ref 92, .int s], (sh, I, L, R))) (M := mr_206) rfl (show mcode 206 43 = some (43, .imul, 1, 0, 0, 0, _) from rfl) (Or.inr (Or.inr (Or.inr (Or.inr (Or.inr (Or.inl ⟨_, rfl, rfl⟩)))))) ?_
      refine XW.fam (S' := (46, [(7, .int t), (6, .int s), (5, .int row), (4, .int room), (0, .ref 90), (1, .int wk), (2, .int rw), (3, .int wt)], [.int t, .int (row * 8), .ref 92, .int s], (sh, I, L, R))) (M := mr_206) rfl (show mcode 206 44 = some (44, .iload 7, 2, 0, 0, 0, _) from rfl) (Or.inl ⟨.int t, rfl, rfl⟩) ?_
      refine XW.fam (S' := (48, [(7, .int t), (6, .int s), (5, .int row), (4, .int room), (0, .ref 90), (1, .int wk), (2, .int rw), (3, .int wt)], [.int 7, .int t, .int (row * 8), .ref 92, .int s], (sh, I, L, R))) (M := mr_206) rfl (show mcode 206 46 = some (46, .bipush 7, 2, 0, 0, 0, _) from rfl) (Or.inl ⟨.int 7, rfl, rfl⟩) ?_
      refine XW.call (d' := d) (mc' := 0) (ms' := 0) (av := [.int t, .int 7]) (rest := [.int (row * 8), .ref 92, .int s]) (M := mr_206) (Ma := mr_21) rfl (show mcode 206 48 = some (48, .invokestatic 40, 3, 21, 0, 0, _) from rfl) rfl (by decide) (by decide) rfl rfl rfl (show 3 ≤ 8 by decide) (tc_min) (by omega) (Nat.zero_le _) (Nat.zero_le _) (fun rQ2 wQ2 Q2 => ?_)
      obtain ⟨rfl, rfl⟩ := Q2
      obtain ⟨mn, emn⟩ : ∃ z : Int32, z = (if 7 < t then 7 else t) := ⟨_, rfl⟩
      rw [← emn]
      have tmn := minI emn
      refine XW.fam (S' := (52, [(7, .int t), (6, .int s), (5, .int row), (4, .int room), (0, .ref 90), (1, .int wk), (2, .int rw), (3, .int wt)], [.int ((row * 8) + mn), .ref 92, .int s], (sh, I, L, R))) (M := mr_206) rfl (show mcode 206 51 = some (51, .iadd, 1, 0, 0, 0, _) from rfl) (Or.inr (Or.inr (Or.inr (Or.inr (Or.inr (Or.inl ⟨_, rfl, rfl⟩)))))) ?_
      have hmn : 0 ≤ mn.toInt ∧ mn.toInt ≤ 7 := by
        by_cases c7 : (7 : Int32).toInt < t.toInt
        · rw [if_pos c7] at tmn; omega
        · rw [if_neg c7] at tmn; omega
      have xhin3 : (((row * 8) + mn)).toInt = 8 * row.toInt + mn.toInt := ix8c (by omega) (by omega)
      have hin3 : inR ((row * 8) + mn) 32 = true := inR_of (by omega) (by omega)
      refine XW.fam (S' := (53, [(7, .int t), (6, .int s), (5, .int row), (4, .int room), (0, .ref 90), (1, .int wk), (2, .int rw), (3, .int wt)], [.int (I 92 (((row * 8) + mn)).toNatClampNeg), .int s], (sh, I, L, R))) (M := mr_206) rfl (show mcode 206 52 = some (52, .iaload, 1, 0, 0, 0, _) from rfl) (Or.inr (Or.inr (Or.inl ⟨_, lda_i c92 hin3, rfl⟩))) ?_
      refine XW.fam (S' := (54, [(7, .int t), (6, .int s), (5, .int row), (4, .int room), (0, .ref 90), (1, .int wk), (2, .int rw), (3, .int wt)], [.int (s + (I 92 (((row * 8) + mn)).toNatClampNeg))], (sh, I, L, R))) (M := mr_206) rfl (show mcode 206 53 = some (53, .iadd, 1, 0, 0, 0, _) from rfl) (Or.inr (Or.inr (Or.inr (Or.inr (Or.inr (Or.inl ⟨_, rfl, rfl⟩)))))) ?_
      refine XW.fam (S' := (56, [(6, .int (s + (I 92 (((row * 8) + mn)).toNatClampNeg))), (7, .int t), (5, .int row), (4, .int room), (0, .ref 90), (1, .int wk), (2, .int rw), (3, .int wt)], [], (sh, I, L, R))) (M := mr_206) rfl (show mcode 206 54 = some (54, .istore 6, 2, 0, 0, 0, _) from rfl) (Or.inr (Or.inr (Or.inr (Or.inr (Or.inr (Or.inr (Or.inl ⟨_, [], _, rfl, rfl, rfl⟩))))))) ?_
      refine XW.fam (S' := (59, [(7, .int (t + Int32.ofInt 1)), (6, .int (s + (I 92 (((row * 8) + mn)).toNatClampNeg))), (5, .int row), (4, .int room), (0, .ref 90), (1, .int wk), (2, .int rw), (3, .int wt)], [], (sh, I, L, R))) (M := mr_206) rfl (show mcode 206 56 = some (56, .iinc 7 1, 3, 0, 0, 0, _) from rfl) (Or.inr (Or.inr (Or.inr (Or.inr (Or.inr (Or.inr (Or.inr (Or.inr (Or.inr ⟨7, 1, t, rfl, rfl, by decide, rfl⟩))))))))) ?_
      refine XW.fam (S' := (25, [(7, .int (t + Int32.ofInt 1)), (6, .int (s + (I 92 (((row * 8) + mn)).toNatClampNeg))), (5, .int row), (4, .int room), (0, .ref 90), (1, .int wk), (2, .int rw), (3, .int wt)], [], (sh, I, L, R))) (M := mr_206) rfl (show mcode 206 59 = some (59, .goto (-34), 3, 25, 0, 0, _) from rfl) (Or.inr (Or.inl ⟨25, [], rfl, rfl⟩)) ?_
      have eo := incO (m := t) (by omega) (by omega)
      have en : ((t + Int32.ofInt 1).toInt - wk.toInt).toNat = (t.toInt - wk.toInt).toNat + 1 := by omega
      have hu : 0 ≤ (I 92 (((row * 8) + mn)).toNatClampNeg).toInt ∧ (I 92 (((row * 8) + mn)).toNatClampNeg).toInt ≤ 9999 := hw.2.2.1 92 _
      have ev : ((s + (I 92 (((row * 8) + mn)).toNatClampNeg))).toInt = s.toInt + (I 92 (((row * 8) + mn)).toNatClampNeg).toInt := sumS (by omega) (by omega)
      have ei : (I 92 (((row * 8) + mn)).toNatClampNeg).toInt = (fun j => lnB (I 92) row.toInt.toNat (wk.toInt.toNat + j)) (t.toInt - wk.toInt).toNat := by
        show (I 92 ((row * 8) + mn).toInt.toNat).toInt = (I 92 (8 * row.toInt.toNat + (if wk.toInt.toNat + (t.toInt - wk.toInt).toNat ≤ 7 then wk.toInt.toNat + (t.toInt - wk.toInt).toNat else 7))).toInt
        have ej : ((row * 8) + mn).toInt.toNat = 8 * row.toInt.toNat + (if wk.toInt.toNat + (t.toInt - wk.toInt).toNat ≤ 7 then wk.toInt.toNat + (t.toInt - wk.toInt).toNat else 7) := by
          split
          · have c7 : ¬ ((7 : Int32).toInt < t.toInt) := by omega
            rw [if_neg c7] at tmn
            omega
          · have c7 : (7 : Int32).toInt < t.toInt := by omega
            rw [if_pos c7] at tmn
            omega
        rw [ej]
      refine XW.sub (ls' := [(7, .int (t + Int32.ofInt 1)), (6, .int (s + (I 92 (((row * 8) + mn)).toNatClampNeg))), (5, .int row), (4, .int room), (0, .ref 90), (1, .int wk), (2, .int rw), (3, .int wt)]) (List.forall_mem_cons.mpr ⟨List.mem_of_getElem? (i := 0) rfl, (List.forall_mem_cons.mpr ⟨List.mem_of_getElem? (i := 1) rfl, (List.forall_mem_cons.mpr ⟨List.mem_of_getElem? (i := 2) rfl, (List.forall_mem_cons.mpr ⟨List.mem_of_getElem? (i := 3) rfl, (List.forall_mem_cons.mpr ⟨List.mem_of_getElem? (i := 4) rfl, (List.forall_mem_cons.mpr ⟨List.mem_of_getElem? (i := 5) rfl, (List.forall_mem_cons.mpr ⟨List.mem_of_getElem? (i := 6) rfl, (List.forall_mem_cons.mpr ⟨List.mem_of_getElem? (i := 7) rfl, (fun _ h => absurd h List.not_mem_nil)⟩)⟩)⟩)⟩)⟩)⟩)⟩)⟩) ?_
      refine ih (t + Int32.ofInt 1) (s + (I 92 (((row * 8) + mn)).toNatClampNeg)) (by omega) (by omega) (by omega) ?_ (by omega) (by omega)
      rw [en]
      show _ = bsum (fun j => lnB (I 92) row.toInt.toNat (wk.toInt.toNat + j)) (t.toInt - wk.toInt).toNat + (fun j => lnB (I 92) row.toInt.toNat (wk.toInt.toNat + j)) (t.toInt - wk.toInt).toNat
      rw [ev, hs, ei]
theorem room_out {d : Nat} {sh : List mE} {I : Nat → Nat → Int32} {L : Nat → Nat → Int64} {R : Nat → Nat → Option Nat} {wk rw wt : Int32} (hw : wOK (mkT vV []) (wE sh R) (sh, I, L, R)) (hk : 0 ≤ wk.toInt ∧ wk.toInt ≤ 7) (hr : 1 ≤ rw.toInt ∧ rw.toInt ≤ 4) (ht : 1 ≤ wt.toInt ∧ wt.toInt ≤ 4) (hwt : ∀ k : Nat, k < 4 → 0 ≤ (I 93 k).toInt ∧ (I 93 k).toInt ≤ 200000) : ∀ (z : Nat) (row room : Int32), 0 ≤ row.toInt → row.toInt ≤ rw.toInt → rw.toInt - row.toInt < z → room.toInt = rmin (fun k => lnS (I 92) wk.toInt.toNat wt.toInt.toNat k - (fun k => (I 93 k).toInt) k) row.toInt.toNat → -300000 ≤ room.toInt → room.toInt ≤ 1000000 → XW 206 mr_206 none (d + 1) 0 0 (fun r w' => (∃ x : Int32, r = some (.int x) ∧ x.toInt = lnRoom (I 92) wt.toInt.toNat (fun k => (I 93 k).toInt) wk.toInt.toNat rw.toInt.toNat) ∧ w' = (sh, I, L, R)) (7, [(5, .int row), (4, .int room), (0, .ref 90), (1, .int wk), (2, .int rw), (3, .int wt)], [], (sh, I, L, R)) := by
  have c90 : sh[90]? = some (.inr 11) := hw.1 90 _ rfl
  have c93 : sh[93]? = some (.inl (.int, 4)) := hw.1 93 _ rfl
  have r90_2 : R 90 2 = some 93 := hw.2.1 90 2 _ rfl
  have z0 : (0 : Int32).toInt = 0 := rfl
  have z4 : (4 : Int32).toInt = 4 := rfl
  intro z
  induction z with
  | zero =>
    intro row room h1 h2 hz hm hm0 hm1
    refine XW.fam (S' := (9, [(5, .int row), (4, .int room), (0, .ref 90), (1, .int wk), (2, .int rw), (3, .int wt)], [.int row], (sh, I, L, R))) (M := mr_206) rfl (show mcode 206 7 = some (7, .iload 5, 2, 0, 0, 0, _) from rfl) (Or.inl ⟨.int row, rfl, rfl⟩) ?_
    refine XW.fam (S' := (10, [(5, .int row), (4, .int room), (0, .ref 90), (1, .int wk), (2, .int rw), (3, .int wt)], [.int rw, .int row], (sh, I, L, R))) (M := mr_206) rfl (show mcode 206 9 = some (9, .iload_n 2, 1, 0, 0, 0, _) from rfl) (Or.inl ⟨.int rw, rfl, rfl⟩) ?_
    have k1 : bcmp .ge row rw = true := bcT (c := .ge) (a := (row).toInt) (b := (rw).toInt) rfl rfl (by show (rw).toInt ≤ (row).toInt; omega)
    refine XW.fam (S' := (85, [(5, .int row), (4, .int room), (0, .ref 90), (1, .int wk), (2, .int rw), (3, .int wt)], [], (sh, I, L, R))) (M := mr_206) rfl (show mcode 206 10 = some (10, .if_icmp .ge 75, 3, 85, 0, 0, _) from rfl) (Or.inr (Or.inl ⟨85, [], by simp [brn, k1], rfl⟩)) ?_
    refine XW.fam (S' := (87, [(5, .int row), (4, .int room), (0, .ref 90), (1, .int wk), (2, .int rw), (3, .int wt)], [.int room], (sh, I, L, R))) (M := mr_206) rfl (show mcode 206 85 = some (85, .iload 4, 2, 0, 0, 0, _) from rfl) (Or.inl ⟨.int room, rfl, rfl⟩) ?_
    refine XW.ret (r := some (.int room)) ⟨⟨.int, rfl, rfl⟩, by decide +kernel⟩ ?_
    have en : row.toInt.toNat = rw.toInt.toNat := by omega
    rw [en] at hm
    exact ⟨⟨room, rfl, hm⟩, rfl⟩
  | succ z ih =>
    intro row room h1 h2 hz hm hm0 hm1
    refine XW.fam (S' := (9, [(5, .int row), (4, .int room), (0, .ref 90), (1, .int wk), (2, .int rw), (3, .int wt)], [.int row], (sh, I, L, R))) (M := mr_206) rfl (show mcode 206 7 = some (7, .iload 5, 2, 0, 0, 0, _) from rfl) (Or.inl ⟨.int row, rfl, rfl⟩) ?_
    refine XW.fam (S' := (10, [(5, .int row), (4, .int room), (0, .ref 90), (1, .int wk), (2, .int rw), (3, .int wt)], [.int rw, .int row], (sh, I, L, R))) (M := mr_206) rfl (show mcode 206 9 = some (9, .iload_n 2, 1, 0, 0, 0, _) from rfl) (Or.inl ⟨.int rw, rfl, rfl⟩) ?_
    cases k1 : bcmp .ge row rw with
    | true =>
      have gk1 : (rw).toInt ≤ (row).toInt := icT (c := .ge) (a := (row).toInt) (b := (rw).toInt) rfl rfl k1
      refine XW.fam (S' := (85, [(5, .int row), (4, .int room), (0, .ref 90), (1, .int wk), (2, .int rw), (3, .int wt)], [], (sh, I, L, R))) (M := mr_206) rfl (show mcode 206 10 = some (10, .if_icmp .ge 75, 3, 85, 0, 0, _) from rfl) (Or.inr (Or.inl ⟨85, [], by simp [brn, k1], rfl⟩)) ?_
      refine XW.fam (S' := (87, [(5, .int row), (4, .int room), (0, .ref 90), (1, .int wk), (2, .int rw), (3, .int wt)], [.int room], (sh, I, L, R))) (M := mr_206) rfl (show mcode 206 85 = some (85, .iload 4, 2, 0, 0, 0, _) from rfl) (Or.inl ⟨.int room, rfl, rfl⟩) ?_
      refine XW.ret (r := some (.int room)) ⟨⟨.int, rfl, rfl⟩, by decide +kernel⟩ ?_
      have en : row.toInt.toNat = rw.toInt.toNat := by omega
      rw [en] at hm
      exact ⟨⟨room, rfl, hm⟩, rfl⟩
    | false =>
      have gk1 : ¬ ((rw).toInt ≤ (row).toInt) := icF (c := .ge) (a := (row).toInt) (b := (rw).toInt) rfl rfl k1
      refine XW.fam (S' := (13, [(5, .int row), (4, .int room), (0, .ref 90), (1, .int wk), (2, .int rw), (3, .int wt)], [], (sh, I, L, R))) (M := mr_206) rfl (show mcode 206 10 = some (10, .if_icmp .ge 75, 3, 85, 0, 0, _) from rfl) (Or.inr (Or.inl ⟨13, [], by simp [brn, k1], rfl⟩)) ?_
      refine XW.fam (S' := (15, [(5, .int row), (4, .int room), (0, .ref 90), (1, .int wk), (2, .int rw), (3, .int wt)], [.int row], (sh, I, L, R))) (M := mr_206) rfl (show mcode 206 13 = some (13, .iload 5, 2, 0, 0, 0, _) from rfl) (Or.inl ⟨.int row, rfl, rfl⟩) ?_
      refine XW.fam (S' := (16, [(5, .int row), (4, .int room), (0, .ref 90), (1, .int wk), (2, .int rw), (3, .int wt)], [.int 4, .int row], (sh, I, L, R))) (M := mr_206) rfl (show mcode 206 15 = some (15, .iconst 4, 1, 0, 0, 0, _) from rfl) (Or.inl ⟨.int 4, rfl, rfl⟩) ?_
      have k2 : bcmp .ge row 4 = false := bcF (c := .ge) (a := (row).toInt) (b := 4) rfl (by decide) (by show ¬ (4 ≤ (row).toInt); omega)
      refine XW.fam (S' := (19, [(5, .int row), (4, .int room), (0, .ref 90), (1, .int wk), (2, .int rw), (3, .int wt)], [], (sh, I, L, R))) (M := mr_206) rfl (show mcode 206 16 = some (16, .if_icmp .ge 69, 3, 85, 0, 0, _) from rfl) (Or.inr (Or.inl ⟨19, [], by simp [brn, k2], rfl⟩)) ?_
      refine XW.fam (S' := (20, [(5, .int row), (4, .int room), (0, .ref 90), (1, .int wk), (2, .int rw), (3, .int wt)], [.int 0], (sh, I, L, R))) (M := mr_206) rfl (show mcode 206 19 = some (19, .iconst 0, 1, 0, 0, 0, _) from rfl) (Or.inl ⟨.int 0, rfl, rfl⟩) ?_
      refine XW.fam (S' := (22, [(6, .int 0), (5, .int row), (4, .int room), (0, .ref 90), (1, .int wk), (2, .int rw), (3, .int wt)], [], (sh, I, L, R))) (M := mr_206) rfl (show mcode 206 20 = some (20, .istore 6, 2, 0, 0, 0, _) from rfl) (Or.inr (Or.inr (Or.inr (Or.inr (Or.inr (Or.inr (Or.inl ⟨_, [], _, rfl, rfl, rfl⟩))))))) ?_
      refine XW.fam (S' := (23, [(6, .int 0), (5, .int row), (4, .int room), (0, .ref 90), (1, .int wk), (2, .int rw), (3, .int wt)], [.int wk], (sh, I, L, R))) (M := mr_206) rfl (show mcode 206 22 = some (22, .iload_n 1, 1, 0, 0, 0, _) from rfl) (Or.inl ⟨.int wk, rfl, rfl⟩) ?_
      refine XW.fam (S' := (25, [(7, .int wk), (6, .int 0), (5, .int row), (4, .int room), (0, .ref 90), (1, .int wk), (2, .int rw), (3, .int wt)], [], (sh, I, L, R))) (M := mr_206) rfl (show mcode 206 23 = some (23, .istore 7, 2, 0, 0, 0, _) from rfl) (Or.inr (Or.inr (Or.inr (Or.inr (Or.inr (Or.inr (Or.inl ⟨_, [], _, rfl, rfl, rfl⟩))))))) ?_
      refine XW.sub (ls' := [(7, .int wk), (6, .int 0), (5, .int row), (4, .int room), (0, .ref 90), (1, .int wk), (2, .int rw), (3, .int wt)]) (List.forall_mem_cons.mpr ⟨List.mem_of_getElem? (i := 0) rfl, (List.forall_mem_cons.mpr ⟨List.mem_of_getElem? (i := 1) rfl, (List.forall_mem_cons.mpr ⟨List.mem_of_getElem? (i := 2) rfl, (List.forall_mem_cons.mpr ⟨List.mem_of_getElem? (i := 3) rfl, (List.forall_mem_cons.mpr ⟨List.mem_of_getElem? (i := 4) rfl, (List.forall_mem_cons.mpr ⟨List.mem_of_getElem? (i := 5) rfl, (List.forall_mem_cons.mpr ⟨List.mem_of_getElem? (i := 6) rfl, (List.forall_mem_cons.mpr ⟨List.mem_of_getElem? (i := 7) rfl, (fun _ h => absurd h List.not_mem_nil)⟩)⟩)⟩)⟩)⟩)⟩)⟩)⟩) ?_
      refine room_in (d := d) hw hk hr ht (by omega) (fun t s hs hs0 hs1 => ?_) 5 wk 0 (by omega) (by omega) (by omega) ?_ (by decide) (by omega)
      · skip
        refine XW.fam (S' := (64, [(7, .int t), (6, .int s), (5, .int row), (4, .int room), (0, .ref 90), (1, .int wk), (2, .int rw), (3, .int wt)], [.int room], (sh, I, L, R))) (M := mr_206) rfl (show mcode 206 62 = some (62, .iload 4, 2, 0, 0, 0, _) from rfl) (Or.inl ⟨.int room, rfl, rfl⟩) ?_
        refine XW.fam (S' := (66, [(7, .int t), (6, .int s), (5, .int row), (4, .int room), (0, .ref 90), (1, .int wk), (2, .int rw), (3, .int wt)], [.int s, .int room], (sh, I, L, R))) (M := mr_206) rfl (show mcode 206 64 = some (64, .iload 6, 2, 0, 0, 0, _) from rfl) (Or.inl ⟨.int s, rfl, rfl⟩) ?_
        refine XW.fam (S' := (67, [(7, .int t), (6, .int s), (5, .int row), (4, .int room), (0, .ref 90), (1, .int wk), (2, .int rw), (3, .int wt)], [.ref 90, .int s, .int room], (sh, I, L, R))) (M := mr_206) rfl (show mcode 206 66 = some (66, .aload_n 0, 1, 0, 0, 0, _) from rfl) (Or.inl ⟨.ref 90, rfl, rfl⟩) ?_
        refine XW.fam (S' := (70, [(7, .int t), (6, .int s), (5, .int row), (4, .int room), (0, .ref 90), (1, .int wk), (2, .int rw), (3, .int wt)], [.ref 93, .int s, .int room], (sh, I, L, R))) (M := mr_206) rfl (show mcode 206 67 = some (67, .getfield 18, 3, 11, 2, 0, _) from rfl) (Or.inr (Or.inr (Or.inr (Or.inr (Or.inr (Or.inr (Or.inr (Or.inl ⟨_, _, rfl, fl_ld c90 r90_2 (by decide) (by decide), rfl⟩)))))))) ?_
        refine XW.fam (S' := (72, [(7, .int t), (6, .int s), (5, .int row), (4, .int room), (0, .ref 90), (1, .int wk), (2, .int rw), (3, .int wt)], [.int row, .ref 93, .int s, .int room], (sh, I, L, R))) (M := mr_206) rfl (show mcode 206 70 = some (70, .iload 5, 2, 0, 0, 0, _) from rfl) (Or.inl ⟨.int row, rfl, rfl⟩) ?_
        have hin3 : inR row 4 = true := inR_of (by omega) (by omega)
        refine XW.fam (S' := (73, [(7, .int t), (6, .int s), (5, .int row), (4, .int room), (0, .ref 90), (1, .int wk), (2, .int rw), (3, .int wt)], [.int (I 93 (row).toNatClampNeg), .int s, .int room], (sh, I, L, R))) (M := mr_206) rfl (show mcode 206 72 = some (72, .iaload, 1, 0, 0, 0, _) from rfl) (Or.inr (Or.inr (Or.inl ⟨_, lda_i c93 hin3, rfl⟩))) ?_
        refine XW.fam (S' := (74, [(7, .int t), (6, .int s), (5, .int row), (4, .int room), (0, .ref 90), (1, .int wk), (2, .int rw), (3, .int wt)], [.int (s - (I 93 (row).toNatClampNeg)), .int room], (sh, I, L, R))) (M := mr_206) rfl (show mcode 206 73 = some (73, .isub, 1, 0, 0, 0, _) from rfl) (Or.inr (Or.inr (Or.inr (Or.inr (Or.inr (Or.inl ⟨_, rfl, rfl⟩)))))) ?_
        refine XW.call (d' := d) (mc' := 0) (ms' := 0) (av := [.int room, .int (s - (I 93 (row).toNatClampNeg))]) (rest := []) (M := mr_206) (Ma := mr_21) rfl (show mcode 206 74 = some (74, .invokestatic 40, 3, 21, 0, 0, _) from rfl) rfl (by decide) (by decide) rfl rfl rfl (show 0 ≤ 8 by decide) (tc_min) (by omega) (Nat.zero_le _) (Nat.zero_le _) (fun rQ4 wQ4 Q4 => ?_)
        obtain ⟨rfl, rfl⟩ := Q4
        obtain ⟨mo, emo⟩ : ∃ z : Int32, z = (if (s - (I 93 (row).toNatClampNeg)) < room then (s - (I 93 (row).toNatClampNeg)) else room) := ⟨_, rfl⟩
        rw [← emo]
        have tmo := minI emo
        refine XW.fam (S' := (79, [(4, .int mo), (7, .int t), (6, .int s), (5, .int row), (0, .ref 90), (1, .int wk), (2, .int rw), (3, .int wt)], [], (sh, I, L, R))) (M := mr_206) rfl (show mcode 206 77 = some (77, .istore 4, 2, 0, 0, 0, _) from rfl) (Or.inr (Or.inr (Or.inr (Or.inr (Or.inr (Or.inr (Or.inl ⟨_, [], _, rfl, rfl, rfl⟩))))))) ?_
        refine XW.fam (S' := (82, [(5, .int (row + Int32.ofInt 1)), (4, .int mo), (7, .int t), (6, .int s), (0, .ref 90), (1, .int wk), (2, .int rw), (3, .int wt)], [], (sh, I, L, R))) (M := mr_206) rfl (show mcode 206 79 = some (79, .iinc 5 1, 3, 0, 0, 0, _) from rfl) (Or.inr (Or.inr (Or.inr (Or.inr (Or.inr (Or.inr (Or.inr (Or.inr (Or.inr ⟨5, 1, row, rfl, rfl, by decide, rfl⟩))))))))) ?_
        refine XW.fam (S' := (7, [(5, .int (row + Int32.ofInt 1)), (4, .int mo), (7, .int t), (6, .int s), (0, .ref 90), (1, .int wk), (2, .int rw), (3, .int wt)], [], (sh, I, L, R))) (M := mr_206) rfl (show mcode 206 82 = some (82, .goto (-75), 3, 7, 0, 0, _) from rfl) (Or.inr (Or.inl ⟨7, [], rfl, rfl⟩)) ?_
        have eo := incO (m := row) (by omega) (by omega)
        refine XW.sub (ls' := [(5, .int (row + Int32.ofInt 1)), (4, .int mo), (0, .ref 90), (1, .int wk), (2, .int rw), (3, .int wt)]) (List.forall_mem_cons.mpr ⟨List.mem_of_getElem? (i := 0) rfl, (List.forall_mem_cons.mpr ⟨List.mem_of_getElem? (i := 1) rfl, (List.forall_mem_cons.mpr ⟨List.mem_of_getElem? (i := 4) rfl, (List.forall_mem_cons.mpr ⟨List.mem_of_getElem? (i := 5) rfl, (List.forall_mem_cons.mpr ⟨List.mem_of_getElem? (i := 6) rfl, (List.forall_mem_cons.mpr ⟨List.mem_of_getElem? (i := 7) rfl, (fun _ h => absurd h List.not_mem_nil)⟩)⟩)⟩)⟩)⟩)⟩) ?_
        have en : (row + Int32.ofInt 1).toInt.toNat = row.toInt.toNat + 1 := by omega
        have hwr := hwt row.toInt.toNat (by omega)
        have ew : (I 93 (row).toNatClampNeg).toInt = (I 93 row.toInt.toNat).toInt := rfl
        have ed : (s - (I 93 (row).toNatClampNeg)).toInt = s.toInt - (I 93 row.toInt.toNat).toInt := by rw [difS (by omega) (by omega), ew]
        have em : mo.toInt = (if (fun k => lnS (I 92) wk.toInt.toNat wt.toInt.toNat k - (fun k => (I 93 k).toInt) k) row.toInt.toNat < rmin (fun k => lnS (I 92) wk.toInt.toNat wt.toInt.toNat k - (fun k => (I 93 k).toInt) k) row.toInt.toNat then (fun k => lnS (I 92) wk.toInt.toNat wt.toInt.toNat k - (fun k => (I 93 k).toInt) k) row.toInt.toNat else rmin (fun k => lnS (I 92) wk.toInt.toNat wt.toInt.toNat k - (fun k => (I 93 k).toInt) k) row.toInt.toNat) := by
          rw [tmo, ed, hs, hm]
        have hmo : -300000 ≤ mo.toInt ∧ mo.toInt ≤ 1000000 := by
          rw [tmo, ed]
          split <;> omega
        refine ih (row + Int32.ofInt 1) mo (by omega) (by omega) (by omega) ?_ hmo.1 hmo.2
        rw [en]
        exact em
      · have e0 : (wk.toInt - wk.toInt).toNat = 0 := by omega
        rw [e0]
        rfl
theorem tc_room {d : Nat} {sh : List mE} {I : Nat → Nat → Int32} {L : Nat → Nat → Int64} {R : Nat → Nat → Option Nat} {wk rw wt : Int32} (hw : wOK (mkT vV []) (wE sh R) (sh, I, L, R)) (hk : 0 ≤ wk.toInt ∧ wk.toInt ≤ 7) (hr : 1 ≤ rw.toInt ∧ rw.toInt ≤ 4) (ht : 1 ≤ wt.toInt ∧ wt.toInt ≤ 4) (hwt : ∀ k : Nat, k < 4 → 0 ≤ (I 93 k).toInt ∧ (I 93 k).toInt ≤ 200000) : Tc 206 (d + 1) 0 0 [.ref 90, .int wk, .int rw, .int wt] (sh, I, L, R) (fun r w' => (∃ x : Int32, r = some (.int x) ∧ x.toInt = lnRoom (I 92) wt.toInt.toNat (fun k => (I 93 k).toInt) wk.toInt.toNat rw.toInt.toNat) ∧ w' = (sh, I, L, R)) := by
  have z0 : (0 : Int32).toInt = 0 := rfl
  have z1000000 : (1000000 : Int32).toInt = 1000000 := rfl
  refine Tc.of mr_206 rfl (show 4 ≤ mr_206.2.2.2.1 by decide) ?_
  refine XW.fam (S' := (2, [(0, .ref 90), (1, .int wk), (2, .int rw), (3, .int wt)], [.int 1000000], (sh, I, L, R))) (M := mr_206) rfl (show mcode 206 0 = some (0, .ldc 39, 2, 0, 0, 1000000, _) from rfl) (Or.inr (Or.inr (Or.inr (Or.inr (Or.inl ⟨.int 1000000, rfl, rfl⟩))))) ?_
  refine XW.fam (S' := (4, [(4, .int 1000000), (0, .ref 90), (1, .int wk), (2, .int rw), (3, .int wt)], [], (sh, I, L, R))) (M := mr_206) rfl (show mcode 206 2 = some (2, .istore 4, 2, 0, 0, 0, _) from rfl) (Or.inr (Or.inr (Or.inr (Or.inr (Or.inr (Or.inr (Or.inl ⟨_, [], _, rfl, rfl, rfl⟩))))))) ?_
  refine XW.fam (S' := (5, [(4, .int 1000000), (0, .ref 90), (1, .int wk), (2, .int rw), (3, .int wt)], [.int 0], (sh, I, L, R))) (M := mr_206) rfl (show mcode 206 4 = some (4, .iconst 0, 1, 0, 0, 0, _) from rfl) (Or.inl ⟨.int 0, rfl, rfl⟩) ?_
  refine XW.fam (S' := (7, [(5, .int 0), (4, .int 1000000), (0, .ref 90), (1, .int wk), (2, .int rw), (3, .int wt)], [], (sh, I, L, R))) (M := mr_206) rfl (show mcode 206 5 = some (5, .istore 5, 2, 0, 0, 0, _) from rfl) (Or.inr (Or.inr (Or.inr (Or.inr (Or.inr (Or.inr (Or.inl ⟨_, [], _, rfl, rfl, rfl⟩))))))) ?_
  refine XW.sub (ls' := [(5, .int 0), (4, .int 1000000), (0, .ref 90), (1, .int wk), (2, .int rw), (3, .int wt)]) (List.forall_mem_cons.mpr ⟨List.mem_of_getElem? (i := 0) rfl, (List.forall_mem_cons.mpr ⟨List.mem_of_getElem? (i := 1) rfl, (List.forall_mem_cons.mpr ⟨List.mem_of_getElem? (i := 2) rfl, (List.forall_mem_cons.mpr ⟨List.mem_of_getElem? (i := 3) rfl, (List.forall_mem_cons.mpr ⟨List.mem_of_getElem? (i := 4) rfl, (List.forall_mem_cons.mpr ⟨List.mem_of_getElem? (i := 5) rfl, (fun _ h => absurd h List.not_mem_nil)⟩)⟩)⟩)⟩)⟩)⟩) ?_
  exact room_out (d := d) hw hk hr ht hwt 5 0 1000000 (by decide) (by omega) (by omega) rfl (by decide) (by decide)
theorem go_lp {d : Nat} {sh : List mE} {J : Nat → Nat → Int32} {L : Nat → Nat → Int64} {R : Nat → Nat → Option Nat} {wk rw cm : Int32} (hk : 0 ≤ wk.toInt ∧ wk.toInt ≤ 7) (hr : 1 ≤ rw.toInt ∧ rw.toInt ≤ 4) (hc : 0 ≤ cm.toInt ∧ cm.toInt ≤ 30000) (hwt : ∀ k : Nat, k < 4 → 0 ≤ (J 93 k).toInt ∧ (J 93 k).toInt ≤ 200000) (c90 : sh[90]? = some (.inr 11)) (c92 : sh[92]? = some (.inl (.int, 32))) (c93 : sh[93]? = some (.inl (.int, 4))) (r90_1 : R 90 1 = some 92) (r90_2 : R 90 2 = some 93) : ∀ (z : Nat) {I : Nat → Nat → Int32} (t : Int32), 0 ≤ t.toInt → t.toInt ≤ rw.toInt → rw.toInt - t.toInt < z → wOK (mkT vV []) (wE sh R) (sh, I, L, R) → fresh (sh, I, L, R) → (∀ q k, ¬ q = 93 → I q k = J q k) → (∀ k : Nat, (k : Int) < t.toInt → (I 93 k).toInt = lnGo (J 92) wk.toInt.toNat cm.toInt (fun k => (J 93 k).toInt) k) → (∀ k : Nat, t.toInt ≤ (k : Int) → I 93 k = J 93 k) → XW 207 mr_207 none (d + 1) 0 0 (fun r w' => r = none ∧ fresh w' ∧ wOK (mkT vV []) (wE sh R) w' ∧ (∀ q k, ¬ q = 93 → w'.2.1 q k = J q k) ∧ (∀ k : Nat, (k : Int) < rw.toInt → (w'.2.1 93 k).toInt = lnGo (J 92) wk.toInt.toNat cm.toInt (fun k => (J 93 k).toInt) k) ∧ (∀ k : Nat, rw.toInt ≤ (k : Int) → w'.2.1 93 k = J 93 k)) (3, [(4, .int t), (0, .ref 90), (1, .int wk), (2, .int rw), (3, .int cm)], [], (sh, I, L, R)) := by
  have z0 : (0 : Int32).toInt = 0 := rfl
  have z4 : (4 : Int32).toInt = 4 := rfl
  have z8 : (8 : Int32).toInt = 8 := rfl
  intro z
  induction z with
  | zero =>
    intro I t h1 h2 hz hw hf h93 hlo hhi
    refine XW.fam (S' := (5, [(4, .int t), (0, .ref 90), (1, .int wk), (2, .int rw), (3, .int cm)], [.int t], (sh, I, L, R))) (M := mr_207) rfl (show mcode 207 3 = some (3, .iload 4, 2, 0, 0, 0, _) from rfl) (Or.inl ⟨.int t, rfl, rfl⟩) ?_
    refine XW.fam (S' := (6, [(4, .int t), (0, .ref 90), (1, .int wk), (2, .int rw), (3, .int cm)], [.int rw, .int t], (sh, I, L, R))) (M := mr_207) rfl (show mcode 207 5 = some (5, .iload_n 2, 1, 0, 0, 0, _) from rfl) (Or.inl ⟨.int rw, rfl, rfl⟩) ?_
    have k1 : bcmp .ge t rw = true := bcT (c := .ge) (a := (t).toInt) (b := (rw).toInt) rfl rfl (by show (rw).toInt ≤ (t).toInt; omega)
    refine XW.fam (S' := (54, [(4, .int t), (0, .ref 90), (1, .int wk), (2, .int rw), (3, .int cm)], [], (sh, I, L, R))) (M := mr_207) rfl (show mcode 207 6 = some (6, .if_icmp .ge 48, 3, 54, 0, 0, _) from rfl) (Or.inr (Or.inl ⟨54, [], by simp [brn, k1], rfl⟩)) ?_
    refine XW.ret (r := none) ⟨rfl, by decide +kernel⟩ ?_
    exact ⟨rfl, hf, hw, h93, fun k hk => hlo k (by omega), fun k hk => hhi k (by omega)⟩
  | succ z ih =>
    intro I t h1 h2 hz hw hf h93 hlo hhi
    refine XW.fam (S' := (5, [(4, .int t), (0, .ref 90), (1, .int wk), (2, .int rw), (3, .int cm)], [.int t], (sh, I, L, R))) (M := mr_207) rfl (show mcode 207 3 = some (3, .iload 4, 2, 0, 0, 0, _) from rfl) (Or.inl ⟨.int t, rfl, rfl⟩) ?_
    refine XW.fam (S' := (6, [(4, .int t), (0, .ref 90), (1, .int wk), (2, .int rw), (3, .int cm)], [.int rw, .int t], (sh, I, L, R))) (M := mr_207) rfl (show mcode 207 5 = some (5, .iload_n 2, 1, 0, 0, 0, _) from rfl) (Or.inl ⟨.int rw, rfl, rfl⟩) ?_
    cases k1 : bcmp .ge t rw with
    | true =>
      have gk1 : (rw).toInt ≤ (t).toInt := icT (c := .ge) (a := (t).toInt) (b := (rw).toInt) rfl rfl k1
      refine XW.fam (S' := (54, [(4, .int t), (0, .ref 90), (1, .int wk), (2, .int rw), (3, .int cm)], [], (sh, I, L, R))) (M := mr_207) rfl (show mcode 207 6 = some (6, .if_icmp .ge 48, 3, 54, 0, 0, _) from rfl) (Or.inr (Or.inl ⟨54, [], by simp [brn, k1], rfl⟩)) ?_
      refine XW.ret (r := none) ⟨rfl, by decide +kernel⟩ ?_
      exact ⟨rfl, hf, hw, h93, fun k hk => hlo k (by omega), fun k hk => hhi k (by omega)⟩
    | false =>
      have gk1 : ¬ ((rw).toInt ≤ (t).toInt) := icF (c := .ge) (a := (t).toInt) (b := (rw).toInt) rfl rfl k1
      refine XW.fam (S' := (9, [(4, .int t), (0, .ref 90), (1, .int wk), (2, .int rw), (3, .int cm)], [], (sh, I, L, R))) (M := mr_207) rfl (show mcode 207 6 = some (6, .if_icmp .ge 48, 3, 54, 0, 0, _) from rfl) (Or.inr (Or.inl ⟨9, [], by simp [brn, k1], rfl⟩)) ?_
      refine XW.fam (S' := (11, [(4, .int t), (0, .ref 90), (1, .int wk), (2, .int rw), (3, .int cm)], [.int t], (sh, I, L, R))) (M := mr_207) rfl (show mcode 207 9 = some (9, .iload 4, 2, 0, 0, 0, _) from rfl) (Or.inl ⟨.int t, rfl, rfl⟩) ?_
      refine XW.fam (S' := (12, [(4, .int t), (0, .ref 90), (1, .int wk), (2, .int rw), (3, .int cm)], [.int 4, .int t], (sh, I, L, R))) (M := mr_207) rfl (show mcode 207 11 = some (11, .iconst 4, 1, 0, 0, 0, _) from rfl) (Or.inl ⟨.int 4, rfl, rfl⟩) ?_
      have k2 : bcmp .ge t 4 = false := bcF (c := .ge) (a := (t).toInt) (b := 4) rfl (by decide) (by show ¬ (4 ≤ (t).toInt); omega)
      refine XW.fam (S' := (15, [(4, .int t), (0, .ref 90), (1, .int wk), (2, .int rw), (3, .int cm)], [], (sh, I, L, R))) (M := mr_207) rfl (show mcode 207 12 = some (12, .if_icmp .ge 42, 3, 54, 0, 0, _) from rfl) (Or.inr (Or.inl ⟨15, [], by simp [brn, k2], rfl⟩)) ?_
      refine XW.fam (S' := (16, [(4, .int t), (0, .ref 90), (1, .int wk), (2, .int rw), (3, .int cm)], [.ref 90], (sh, I, L, R))) (M := mr_207) rfl (show mcode 207 15 = some (15, .aload_n 0, 1, 0, 0, 0, _) from rfl) (Or.inl ⟨.ref 90, rfl, rfl⟩) ?_
      refine XW.fam (S' := (19, [(4, .int t), (0, .ref 90), (1, .int wk), (2, .int rw), (3, .int cm)], [.ref 93], (sh, I, L, R))) (M := mr_207) rfl (show mcode 207 16 = some (16, .getfield 18, 3, 11, 2, 0, _) from rfl) (Or.inr (Or.inr (Or.inr (Or.inr (Or.inr (Or.inr (Or.inr (Or.inl ⟨_, _, rfl, fl_ld c90 r90_2 (by decide) (by decide), rfl⟩)))))))) ?_
      refine XW.fam (S' := (21, [(4, .int t), (0, .ref 90), (1, .int wk), (2, .int rw), (3, .int cm)], [.int t, .ref 93], (sh, I, L, R))) (M := mr_207) rfl (show mcode 207 19 = some (19, .iload 4, 2, 0, 0, 0, _) from rfl) (Or.inl ⟨.int t, rfl, rfl⟩) ?_
      refine XW.fam (S' := (22, [(4, .int t), (0, .ref 90), (1, .int wk), (2, .int rw), (3, .int cm)], [.int 0, .int t, .ref 93], (sh, I, L, R))) (M := mr_207) rfl (show mcode 207 21 = some (21, .iconst 0, 1, 0, 0, 0, _) from rfl) (Or.inl ⟨.int 0, rfl, rfl⟩) ?_
      refine XW.fam (S' := (23, [(4, .int t), (0, .ref 90), (1, .int wk), (2, .int rw), (3, .int cm)], [.ref 90, .int 0, .int t, .ref 93], (sh, I, L, R))) (M := mr_207) rfl (show mcode 207 22 = some (22, .aload_n 0, 1, 0, 0, 0, _) from rfl) (Or.inl ⟨.ref 90, rfl, rfl⟩) ?_
      refine XW.fam (S' := (26, [(4, .int t), (0, .ref 90), (1, .int wk), (2, .int rw), (3, .int cm)], [.ref 93, .int 0, .int t, .ref 93], (sh, I, L, R))) (M := mr_207) rfl (show mcode 207 23 = some (23, .getfield 18, 3, 11, 2, 0, _) from rfl) (Or.inr (Or.inr (Or.inr (Or.inr (Or.inr (Or.inr (Or.inr (Or.inl ⟨_, _, rfl, fl_ld c90 r90_2 (by decide) (by decide), rfl⟩)))))))) ?_
      refine XW.fam (S' := (28, [(4, .int t), (0, .ref 90), (1, .int wk), (2, .int rw), (3, .int cm)], [.int t, .ref 93, .int 0, .int t, .ref 93], (sh, I, L, R))) (M := mr_207) rfl (show mcode 207 26 = some (26, .iload 4, 2, 0, 0, 0, _) from rfl) (Or.inl ⟨.int t, rfl, rfl⟩) ?_
      have hin3 : inR t 4 = true := inR_of (by omega) (by omega)
      refine XW.fam (S' := (29, [(4, .int t), (0, .ref 90), (1, .int wk), (2, .int rw), (3, .int cm)], [.int (I 93 (t).toNatClampNeg), .int 0, .int t, .ref 93], (sh, I, L, R))) (M := mr_207) rfl (show mcode 207 28 = some (28, .iaload, 1, 0, 0, 0, _) from rfl) (Or.inr (Or.inr (Or.inl ⟨_, lda_i c93 hin3, rfl⟩))) ?_
      refine XW.fam (S' := (30, [(4, .int t), (0, .ref 90), (1, .int wk), (2, .int rw), (3, .int cm)], [.int cm, .int (I 93 (t).toNatClampNeg), .int 0, .int t, .ref 93], (sh, I, L, R))) (M := mr_207) rfl (show mcode 207 29 = some (29, .iload_n 3, 1, 0, 0, 0, _) from rfl) (Or.inl ⟨.int cm, rfl, rfl⟩) ?_
      refine XW.fam (S' := (31, [(4, .int t), (0, .ref 90), (1, .int wk), (2, .int rw), (3, .int cm)], [.int ((I 93 (t).toNatClampNeg) + cm), .int 0, .int t, .ref 93], (sh, I, L, R))) (M := mr_207) rfl (show mcode 207 30 = some (30, .iadd, 1, 0, 0, 0, _) from rfl) (Or.inr (Or.inr (Or.inr (Or.inr (Or.inr (Or.inl ⟨_, rfl, rfl⟩)))))) ?_
      refine XW.fam (S' := (32, [(4, .int t), (0, .ref 90), (1, .int wk), (2, .int rw), (3, .int cm)], [.ref 90, .int ((I 93 (t).toNatClampNeg) + cm), .int 0, .int t, .ref 93], (sh, I, L, R))) (M := mr_207) rfl (show mcode 207 31 = some (31, .aload_n 0, 1, 0, 0, 0, _) from rfl) (Or.inl ⟨.ref 90, rfl, rfl⟩) ?_
      refine XW.fam (S' := (35, [(4, .int t), (0, .ref 90), (1, .int wk), (2, .int rw), (3, .int cm)], [.ref 92, .int ((I 93 (t).toNatClampNeg) + cm), .int 0, .int t, .ref 93], (sh, I, L, R))) (M := mr_207) rfl (show mcode 207 32 = some (32, .getfield 15, 3, 11, 1, 0, _) from rfl) (Or.inr (Or.inr (Or.inr (Or.inr (Or.inr (Or.inr (Or.inr (Or.inl ⟨_, _, rfl, fl_ld c90 r90_1 (by decide) (by decide), rfl⟩)))))))) ?_
      refine XW.fam (S' := (37, [(4, .int t), (0, .ref 90), (1, .int wk), (2, .int rw), (3, .int cm)], [.int t, .ref 92, .int ((I 93 (t).toNatClampNeg) + cm), .int 0, .int t, .ref 93], (sh, I, L, R))) (M := mr_207) rfl (show mcode 207 35 = some (35, .iload 4, 2, 0, 0, 0, _) from rfl) (Or.inl ⟨.int t, rfl, rfl⟩) ?_
      refine XW.fam (S' := (39, [(4, .int t), (0, .ref 90), (1, .int wk), (2, .int rw), (3, .int cm)], [.int 8, .int t, .ref 92, .int ((I 93 (t).toNatClampNeg) + cm), .int 0, .int t, .ref 93], (sh, I, L, R))) (M := mr_207) rfl (show mcode 207 37 = some (37, .bipush 8, 2, 0, 0, 0, _) from rfl) (Or.inl ⟨.int 8, rfl, rfl⟩) ?_
      refine XW.fam (S' := (40, [(4, .int t), (0, .ref 90), (1, .int wk), (2, .int rw), (3, .int cm)], [.int (t * 8), .ref 92, .int ((I 93 (t).toNatClampNeg) + cm), .int 0, .int t, .ref 93], (sh, I, L, R))) (M := mr_207) rfl (show mcode 207 39 = some (39, .imul, 1, 0, 0, 0, _) from rfl) (Or.inr (Or.inr (Or.inr (Or.inr (Or.inr (Or.inl ⟨_, rfl, rfl⟩)))))) ?_
      refine XW.fam (S' := (41, [(4, .int t), (0, .ref 90), (1, .int wk), (2, .int rw), (3, .int cm)], [.int wk, .int (t * 8), .ref 92, .int ((I 93 (t).toNatClampNeg) + cm), .int 0, .int t, .ref 93], (sh, I, L, R))) (M := mr_207) rfl (show mcode 207 40 = some (40, .iload_n 1, 1, 0, 0, 0, _) from rfl) (Or.inl ⟨.int wk, rfl, rfl⟩) ?_
      refine XW.fam (S' := (42, [(4, .int t), (0, .ref 90), (1, .int wk), (2, .int rw), (3, .int cm)], [.int ((t * 8) + wk), .ref 92, .int ((I 93 (t).toNatClampNeg) + cm), .int 0, .int t, .ref 93], (sh, I, L, R))) (M := mr_207) rfl (show mcode 207 41 = some (41, .iadd, 1, 0, 0, 0, _) from rfl) (Or.inr (Or.inr (Or.inr (Or.inr (Or.inr (Or.inl ⟨_, rfl, rfl⟩)))))) ?_
      have xhin4 : (((t * 8) + wk)).toInt = 8 * t.toInt + wk.toInt := ix8c (by omega) (by omega)
      have hin4 : inR ((t * 8) + wk) 32 = true := inR_of (by omega) (by omega)
      refine XW.fam (S' := (43, [(4, .int t), (0, .ref 90), (1, .int wk), (2, .int rw), (3, .int cm)], [.int (I 92 (((t * 8) + wk)).toNatClampNeg), .int ((I 93 (t).toNatClampNeg) + cm), .int 0, .int t, .ref 93], (sh, I, L, R))) (M := mr_207) rfl (show mcode 207 42 = some (42, .iaload, 1, 0, 0, 0, _) from rfl) (Or.inr (Or.inr (Or.inl ⟨_, lda_i c92 hin4, rfl⟩))) ?_
      refine XW.fam (S' := (44, [(4, .int t), (0, .ref 90), (1, .int wk), (2, .int rw), (3, .int cm)], [.int (((I 93 (t).toNatClampNeg) + cm) - (I 92 (((t * 8) + wk)).toNatClampNeg)), .int 0, .int t, .ref 93], (sh, I, L, R))) (M := mr_207) rfl (show mcode 207 43 = some (43, .isub, 1, 0, 0, 0, _) from rfl) (Or.inr (Or.inr (Or.inr (Or.inr (Or.inr (Or.inl ⟨_, rfl, rfl⟩)))))) ?_
      refine XW.call (d' := d) (mc' := 0) (ms' := 0) (av := [.int 0, .int (((I 93 (t).toNatClampNeg) + cm) - (I 92 (((t * 8) + wk)).toNatClampNeg))]) (rest := [.int t, .ref 93]) (M := mr_207) (Ma := mr_22) rfl (show mcode 207 44 = some (44, .invokestatic 46, 3, 22, 0, 0, _) from rfl) rfl (by decide) (by decide) rfl rfl rfl (show 2 ≤ 8 by decide) (tc_max) (by omega) (Nat.zero_le _) (Nat.zero_le _) (fun rQ5 wQ5 Q5 => ?_)
      obtain ⟨rfl, rfl⟩ := Q5
      obtain ⟨mx, emx⟩ : ∃ z : Int32, z = (if 0 < (((I 93 (t).toNatClampNeg) + cm) - (I 92 (((t * 8) + wk)).toNatClampNeg)) then (((I 93 (t).toNatClampNeg) + cm) - (I 92 (((t * 8) + wk)).toNatClampNeg)) else 0) := ⟨_, rfl⟩
      rw [← emx]
      have tmx := maxI emx
      have hin6 : inR t 4 = true := inR_of (by omega) (by omega)
      obtain ⟨I7, eI7⟩ : ∃ X, X = up2 I 93 (t).toNatClampNeg mx := ⟨_, rfl⟩
      refine XW.fam (S' := (48, [(4, .int t), (0, .ref 90), (1, .int wk), (2, .int rw), (3, .int cm)], [], (sh, I7, L, R))) (M := mr_207) rfl (show mcode 207 47 = some (47, .iastore, 1, 0, 0, 0, _) from rfl) (Or.inr (Or.inr (Or.inr (Or.inl ⟨_, _, by rw [eI7]; exact sta_i c93 hin6, rfl⟩)))) ?_
      have et : (t).toNatClampNeg = t.toInt.toNat := rfl
      have e1 : I 93 (t).toNatClampNeg = J 93 t.toInt.toNat := hhi _ (by omega)
      have e2 : I 92 ((t * 8) + wk).toNatClampNeg = J 92 (8 * t.toInt.toNat + (if wk.toInt.toNat ≤ 7 then wk.toInt.toNat else 7)) := by
        rw [h93 92 _ (by decide)]
        have ej : ((t * 8) + wk).toNatClampNeg = 8 * t.toInt.toNat + (if wk.toInt.toNat ≤ 7 then wk.toInt.toNat else 7) := by
          show ((t * 8) + wk).toInt.toNat = _
          rw [if_pos (by omega)]
          have xx := ix8c (a := t) (b := wk) (by omega) (by omega)
          omega
        rw [ej]
      have hB : 0 ≤ (J 92 (8 * t.toInt.toNat + (if wk.toInt.toNat ≤ 7 then wk.toInt.toNat else 7))).toInt ∧ (J 92 (8 * t.toInt.toNat + (if wk.toInt.toNat ≤ 7 then wk.toInt.toNat else 7))).toInt ≤ 9999 := by rw [← e2]; exact hw.2.2.1 92 _
      have hW := hwt t.toInt.toNat (by omega)
      have hmx : mx.toInt = lnGo (J 92) wk.toInt.toNat cm.toInt (fun k => (J 93 k).toInt) t.toInt.toNat := by
        rw [tmx, e1, e2, difS (by rw [sumS (by omega) (by omega)]; omega) (by omega), sumS (by omega) (by omega)]
        rfl
      have hmb : 0 ≤ mx.toInt ∧ mx.toInt ≤ 1000000 := by
        have hX : ((I 93 (t).toNatClampNeg + cm) - I 92 ((t * 8) + wk).toNatClampNeg).toInt = (J 93 t.toInt.toNat).toInt + cm.toInt - (J 92 (8 * t.toInt.toNat + (if wk.toInt.toNat ≤ 7 then wk.toInt.toNat else 7))).toInt := by
          rw [e1, e2, difS (by rw [sumS (by omega) (by omega)]; omega) (by omega), sumS (by omega) (by omega)]
        by_cases c0 : (0 : Int32).toInt < ((I 93 (t).toNatClampNeg + cm) - I 92 ((t * 8) + wk).toNatClampNeg).toInt
        · rw [if_pos c0] at tmx
          omega
        · rw [if_neg c0] at tmx
          omega
      have hwI7 : wOK (mkT vV []) (wE sh R) (sh, I7, L, R) := by rw [eI7]; exact wOK_u2 (q := 93) (k := (t).toNatClampNeg) (x := mx) wE_put hw rfl (by show (0 : Int) ≤ _; omega) (by show _ ≤ (2147483647 : Int); omega)
      have hfI7 : fresh (sh, I7, L, R) := by rw [eI7]; exact fresh_I hf c93
      have v8 : I7 93 (t).toNatClampNeg = mx := by rw [eI7]; exact up2_eq
      refine XW.fam (S' := (51, [(4, .int (t + Int32.ofInt 1)), (0, .ref 90), (1, .int wk), (2, .int rw), (3, .int cm)], [], (sh, I7, L, R))) (M := mr_207) rfl (show mcode 207 48 = some (48, .iinc 4 1, 3, 0, 0, 0, _) from rfl) (Or.inr (Or.inr (Or.inr (Or.inr (Or.inr (Or.inr (Or.inr (Or.inr (Or.inr ⟨4, 1, t, rfl, rfl, by decide, rfl⟩))))))))) ?_
      refine XW.fam (S' := (3, [(4, .int (t + Int32.ofInt 1)), (0, .ref 90), (1, .int wk), (2, .int rw), (3, .int cm)], [], (sh, I7, L, R))) (M := mr_207) rfl (show mcode 207 51 = some (51, .goto (-48), 3, 3, 0, 0, _) from rfl) (Or.inr (Or.inl ⟨3, [], rfl, rfl⟩)) ?_
      have eo := incO (m := t) (by omega) (by omega)
      refine XW.sub (ls' := [(4, .int (t + Int32.ofInt 1)), (0, .ref 90), (1, .int wk), (2, .int rw), (3, .int cm)]) (List.forall_mem_cons.mpr ⟨List.mem_of_getElem? (i := 0) rfl, (List.forall_mem_cons.mpr ⟨List.mem_of_getElem? (i := 1) rfl, (List.forall_mem_cons.mpr ⟨List.mem_of_getElem? (i := 2) rfl, (List.forall_mem_cons.mpr ⟨List.mem_of_getElem? (i := 3) rfl, (List.forall_mem_cons.mpr ⟨List.mem_of_getElem? (i := 4) rfl, (fun _ h => absurd h List.not_mem_nil)⟩)⟩)⟩)⟩)⟩) ?_
      refine ih (t + Int32.ofInt 1) (by omega) (by omega) (by omega) hwI7 hfI7 (fun q k hq => by rw [eI7, up2_ne (fun e => hq e.1)]; exact h93 q k hq) (fun k hk => ?_) (fun k hk => ?_)
      · by_cases c : (k : Int) < t.toInt
        · rw [eI7, up2_ne (fun e => by have := e.2; omega)]
          exact hlo k c
        · have ek : k = t.toInt.toNat := by omega
          have ek2 : k = (t).toNatClampNeg := ek
          rw [eI7, ek2, up2_eq, hmx]
          rfl
      · rw [eI7, up2_ne (fun e => by have := e.2; omega)]
        exact hhi k (by omega)
theorem tc_go {d : Nat} {sh : List mE} {I : Nat → Nat → Int32} {L : Nat → Nat → Int64} {R : Nat → Nat → Option Nat} {wk rw cm : Int32} (hw : wOK (mkT vV []) (wE sh R) (sh, I, L, R)) (hf : fresh (sh, I, L, R)) (hk : 0 ≤ wk.toInt ∧ wk.toInt ≤ 7) (hr : 1 ≤ rw.toInt ∧ rw.toInt ≤ 4) (hc : 0 ≤ cm.toInt ∧ cm.toInt ≤ 30000) (hwt : ∀ k : Nat, k < 4 → 0 ≤ (I 93 k).toInt ∧ (I 93 k).toInt ≤ 200000) : Tc 207 (d + 1) 0 0 [.ref 90, .int wk, .int rw, .int cm] (sh, I, L, R) (fun r w' => r = none ∧ fresh w' ∧ wOK (mkT vV []) (wE sh R) w' ∧ (∀ q k, ¬ q = 93 → w'.2.1 q k = I q k) ∧ (∀ k : Nat, (k : Int) < rw.toInt → (w'.2.1 93 k).toInt = lnGo (I 92) wk.toInt.toNat cm.toInt (fun k => (I 93 k).toInt) k) ∧ (∀ k : Nat, rw.toInt ≤ (k : Int) → w'.2.1 93 k = I 93 k)) := by
  have c90 : sh[90]? = some (.inr 11) := hw.1 90 _ rfl
  have c92 : sh[92]? = some (.inl (.int, 32)) := hw.1 92 _ rfl
  have c93 : sh[93]? = some (.inl (.int, 4)) := hw.1 93 _ rfl
  have r90_1 : R 90 1 = some 92 := hw.2.1 90 1 _ rfl
  have r90_2 : R 90 2 = some 93 := hw.2.1 90 2 _ rfl
  have z0 : (0 : Int32).toInt = 0 := rfl
  refine Tc.of mr_207 rfl (show 4 ≤ mr_207.2.2.2.1 by decide) ?_
  refine XW.fam (S' := (1, [(0, .ref 90), (1, .int wk), (2, .int rw), (3, .int cm)], [.int 0], (sh, I, L, R))) (M := mr_207) rfl (show mcode 207 0 = some (0, .iconst 0, 1, 0, 0, 0, _) from rfl) (Or.inl ⟨.int 0, rfl, rfl⟩) ?_
  refine XW.fam (S' := (3, [(4, .int 0), (0, .ref 90), (1, .int wk), (2, .int rw), (3, .int cm)], [], (sh, I, L, R))) (M := mr_207) rfl (show mcode 207 1 = some (1, .istore 4, 2, 0, 0, 0, _) from rfl) (Or.inr (Or.inr (Or.inr (Or.inr (Or.inr (Or.inr (Or.inl ⟨_, [], _, rfl, rfl, rfl⟩))))))) ?_
  exact go_lp (d := d) hk hr hc hwt c90 c92 c93 r90_1 r90_2 5 0 (by decide) (by omega) (by omega) hw hf (fun _ _ _ => rfl) (fun k hk => by exfalso; omega) (fun _ _ => rfl)
