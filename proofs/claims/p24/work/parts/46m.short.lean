/-! ===== far of our side: ways through a new rail (wip/genfar.py) ===== -/
def shF (W : Nat → Nat → Int) (u v : Nat) (d : Int) (a b : Nat) : Int := if W a u + d + W v b < W a b then (if W a v + d + W u b < W a u + d + W v b then W a v + d + W u b else W a u + d + W v b) else (if W a v + d + W u b < W a b then W a v + d + W u b else W a b)
theorem shF_ok {W : Nat → Nat → Int} {u v : Nat} {d : Int} {a b : Nat} : shF W u v d a b ≤ W a b ∧ shF W u v d a b ≤ W a u + d + W v b ∧ shF W u v d a b ≤ W a v + d + W u b ∧ (shF W u v d a b = W a b ∨ shF W u v d a b = W a u + d + W v b ∨ shF W u v d a b = W a v + d + W u b) := by
  unfold shF
  split
  · split <;> omega
  · split <;> omega
theorem grt_sym {n : Nat} {C : Int} {r W : Nat → Nat → Int} (hs : ∀ a b, a < n → b < n → r a b = r b a) (hW : Grt n C r W) {a b : Nat} (ha : a < n) (hb : b < n) : W a b = W b a := by
  obtain ⟨⟨w1, w2, w3, w4⟩, w5⟩ := hW
  have hV : Mtrc n C r (fun x y => W y x) := ⟨w1, fun x y hx hy => w2 y x hy hx, fun x y hx hy q => by
    have k := w3 y x hy hx (by rw [hs y x hy hx]; exact q)
    rw [hs x y hx hy]
    exact k, fun x y z hx hy hz => by
    have k := w4 z y x hz hy hx
    show W z x ≤ W y x + W z y
    omega⟩
  have k1 : W b a ≤ W a b := w5 _ hV a b ha hb
  have k2 : W a b ≤ W b a := w5 _ hV b a hb ha
  omega
theorem sh_in {d : Nat} {sh : List mE} {J : Nat → Nat → Int32} {L : Nat → Nat → Int64} {R : Nat → Nat → Option Nat} {m u v dd : Int32} {f tA tB : Int32} (hm0 : 0 ≤ m.toInt) (hm1 : m.toInt ≤ 20) (em : J 1 1 = m) (hu : 0 ≤ u.toInt ∧ u.toInt < m.toInt) (hv : 0 ≤ v.toInt ∧ v.toInt < m.toInt) (hd : 1 ≤ dd.toInt ∧ dd.toInt ≤ 9) (hdg : ∀ a, a < m.toInt.toNat → rwT J 8 a a = 0) (hb8 : ∀ a b, a < m.toInt.toNat → b < m.toInt.toNat → 0 ≤ rwT J 8 a b ∧ rwT J 8 a b ≤ 1000000) (htr : ∀ a b c, a < m.toInt.toNat → b < m.toInt.toNat → c < m.toInt.toNat → rwT J 8 a c ≤ rwT J 8 a b + rwT J 8 b c) (hA : tA.toInt = rwT J 8 f.toInt.toNat u.toInt.toNat + dd.toInt) (hB : tB.toInt = rwT J 8 f.toInt.toNat v.toInt.toNat + dd.toInt) (hf0 : 0 ≤ f.toInt ∧ f.toInt < m.toInt) {Q : Option Value → mW → Prop} : ∀ (z : Nat) {I : Nat → Nat → Int32} (t : Int32), 0 ≤ t.toInt → t.toInt ≤ m.toInt → m.toInt - t.toInt < z → wOK (mkT vV []) (wE sh R) (sh, I, L, R) → fresh (sh, I, L, R) → (∀ q k, ¬ q = 8 → I q k = J q k) → (∀ a b : Nat, a < 20 → b < 20 → ((a < m.toInt.toNat ∧ b < m.toInt.toNat ∧ (a < f.toInt.toNat ∨ (a = f.toInt.toNat ∧ b < t.toInt.toNat))) → rwT I 8 a b = shF (rwT J 8) u.toInt.toNat v.toInt.toNat dd.toInt a b) ∧ (¬ (a < m.toInt.toNat ∧ b < m.toInt.toNat ∧ (a < f.toInt.toNat ∨ (a = f.toInt.toNat ∧ b < t.toInt.toNat))) → rwT I 8 a b = rwT J 8 a b)) → (∀ {I : Nat → Nat → Int32}, wOK (mkT vV []) (wE sh R) (sh, I, L, R) → fresh (sh, I, L, R) → (∀ q k, ¬ q = 8 → I q k = J q k) → (∀ a b : Nat, a < 20 → b < 20 → ((a < m.toInt.toNat ∧ b < m.toInt.toNat ∧ a < f.toInt.toNat + 1) → rwT I 8 a b = shF (rwT J 8) u.toInt.toNat v.toInt.toNat dd.toInt a b) ∧ (¬ (a < m.toInt.toNat ∧ b < m.toInt.toNat ∧ a < f.toInt.toNat + 1) → rwT I 8 a b = rwT J 8 a b)) → ∀ t : Int32, XW 23 mr_23 none (d + 1) 0 0 Q (124, [(7, .int t), (6, .int tB), (5, .int tA), (4, .int f), (0, .ref 1), (1, .int u), (2, .int v), (3, .int dd)], [], (sh, I, L, R))) → XW 23 mr_23 none (d + 1) 0 0 Q (45, [(7, .int t), (6, .int tB), (5, .int tA), (4, .int f), (0, .ref 1), (1, .int u), (2, .int v), (3, .int dd)], [], (sh, I, L, R)) := by
  intro z
  induction z with
  | zero =>
    intro I t h1 h2 hz hw hf hkp hmx K
    have c1 : sh[1]? = some (.inr 1) := hw.1 1 _ rfl
    have c8 : sh[8]? = some (.inl (.int, 400)) := hw.1 8 _ rfl
    have r1_8 : R 1 8 = some 8 := hw.2.1 1 8 _ rfl
    have vm : I 1 1 = m := (hkp 1 1 (by decide)).trans em
    refine XW.fam (S' := (47, [(7, .int t), (6, .int tB), (5, .int tA), (4, .int f), (0, .ref 1), (1, .int u), (2, .int v), (3, .int dd)], [.int t], (sh, I, L, R))) (M := mr_23) rfl (show mcode 23 45 = some (45, .iload 7, 2, 0, 0, 0, _) from rfl) (Or.inl ⟨.int t, rfl, rfl⟩) ?_
    refine XW.fam (S' := (48, [(7, .int t), (6, .int tB), (5, .int tA), (4, .int f), (0, .ref 1), (1, .int u), (2, .int v), (3, .int dd)], [.ref 1, .int t], (sh, I, L, R))) (M := mr_23) rfl (show mcode 23 47 = some (47, .aload_n 0, 1, 0, 0, 0, _) from rfl) (Or.inl ⟨.ref 1, rfl, rfl⟩) ?_
    refine XW.fam (S' := (51, [(7, .int t), (6, .int tB), (5, .int tA), (4, .int f), (0, .ref 1), (1, .int u), (2, .int v), (3, .int dd)], [.int (I 1 1), .int t], (sh, I, L, R))) (M := mr_23) rfl (show mcode 23 48 = some (48, .getfield 33, 3, 1, 1, 0, _) from rfl) (Or.inr (Or.inr (Or.inr (Or.inr (Or.inr (Or.inr (Or.inr (Or.inl ⟨_, _, rfl, fl_ldI c1 (by decide) (by decide), rfl⟩)))))))) ?_
    rw [vm]
    have k1 : bcmp .ge t m = true := bcT (c := .ge) (a := (t).toInt) (b := (m).toInt) rfl rfl (by show (m).toInt ≤ (t).toInt; omega)
    refine XW.fam (S' := (124, [(7, .int t), (6, .int tB), (5, .int tA), (4, .int f), (0, .ref 1), (1, .int u), (2, .int v), (3, .int dd)], [], (sh, I, L, R))) (M := mr_23) rfl (show mcode 23 51 = some (51, .if_icmp .ge 73, 3, 124, 0, 0, _) from rfl) (Or.inr (Or.inl ⟨124, [], by simp [brn, k1], rfl⟩)) ?_
    exact K hw hf hkp (fun a b ha hb => ⟨fun q => (hmx a b ha hb).1 (by omega), fun q => (hmx a b ha hb).2 (by omega)⟩) t
  | succ z ih =>
    intro I t h1 h2 hz hw hf hkp hmx K
    have c1 : sh[1]? = some (.inr 1) := hw.1 1 _ rfl
    have c8 : sh[8]? = some (.inl (.int, 400)) := hw.1 8 _ rfl
    have r1_8 : R 1 8 = some 8 := hw.2.1 1 8 _ rfl
    have vm : I 1 1 = m := (hkp 1 1 (by decide)).trans em
    refine XW.fam (S' := (47, [(7, .int t), (6, .int tB), (5, .int tA), (4, .int f), (0, .ref 1), (1, .int u), (2, .int v), (3, .int dd)], [.int t], (sh, I, L, R))) (M := mr_23) rfl (show mcode 23 45 = some (45, .iload 7, 2, 0, 0, 0, _) from rfl) (Or.inl ⟨.int t, rfl, rfl⟩) ?_
    refine XW.fam (S' := (48, [(7, .int t), (6, .int tB), (5, .int tA), (4, .int f), (0, .ref 1), (1, .int u), (2, .int v), (3, .int dd)], [.ref 1, .int t], (sh, I, L, R))) (M := mr_23) rfl (show mcode 23 47 = some (47, .aload_n 0, 1, 0, 0, 0, _) from rfl) (Or.inl ⟨.ref 1, rfl, rfl⟩) ?_
    refine XW.fam (S' := (51, [(7, .int t), (6, .int tB), (5, .int tA), (4, .int f), (0, .ref 1), (1, .int u), (2, .int v), (3, .int dd)], [.int (I 1 1), .int t], (sh, I, L, R))) (M := mr_23) rfl (show mcode 23 48 = some (48, .getfield 33, 3, 1, 1, 0, _) from rfl) (Or.inr (Or.inr (Or.inr (Or.inr (Or.inr (Or.inr (Or.inr (Or.inl ⟨_, _, rfl, fl_ldI c1 (by decide) (by decide), rfl⟩)))))))) ?_
    rw [vm]
    cases k1 : bcmp .ge t m with
    | true =>
      have gk1 : (m).toInt ≤ (t).toInt := icT (c := .ge) (a := (t).toInt) (b := (m).toInt) rfl rfl k1
      refine XW.fam (S' := (124, [(7, .int t), (6, .int tB), (5, .int tA), (4, .int f), (0, .ref 1), (1, .int u), (2, .int v), (3, .int dd)], [], (sh, I, L, R))) (M := mr_23) rfl (show mcode 23 51 = some (51, .if_icmp .ge 73, 3, 124, 0, 0, _) from rfl) (Or.inr (Or.inl ⟨124, [], by simp [brn, k1], rfl⟩)) ?_
      exact K hw hf hkp (fun a b ha hb => ⟨fun q => (hmx a b ha hb).1 (by omega), fun q => (hmx a b ha hb).2 (by omega)⟩) t
    | false =>
      have gk1 : ¬ ((m).toInt ≤ (t).toInt) := icF (c := .ge) (a := (t).toInt) (b := (m).toInt) rfl rfl k1
      refine XW.fam (S' := (54, [(7, .int t), (6, .int tB), (5, .int tA), (4, .int f), (0, .ref 1), (1, .int u), (2, .int v), (3, .int dd)], [], (sh, I, L, R))) (M := mr_23) rfl (show mcode 23 51 = some (51, .if_icmp .ge 73, 3, 124, 0, 0, _) from rfl) (Or.inr (Or.inl ⟨54, [], by simp [brn, k1], rfl⟩)) ?_
      refine XW.fam (S' := (56, [(7, .int t), (6, .int tB), (5, .int tA), (4, .int f), (0, .ref 1), (1, .int u), (2, .int v), (3, .int dd)], [.int tA], (sh, I, L, R))) (M := mr_23) rfl (show mcode 23 54 = some (54, .iload 5, 2, 0, 0, 0, _) from rfl) (Or.inl ⟨.int tA, rfl, rfl⟩) ?_
      refine XW.fam (S' := (57, [(7, .int t), (6, .int tB), (5, .int tA), (4, .int f), (0, .ref 1), (1, .int u), (2, .int v), (3, .int dd)], [.ref 1, .int tA], (sh, I, L, R))) (M := mr_23) rfl (show mcode 23 56 = some (56, .aload_n 0, 1, 0, 0, 0, _) from rfl) (Or.inl ⟨.ref 1, rfl, rfl⟩) ?_
      refine XW.fam (S' := (60, [(7, .int t), (6, .int tB), (5, .int tA), (4, .int f), (0, .ref 1), (1, .int u), (2, .int v), (3, .int dd)], [.ref 8, .int tA], (sh, I, L, R))) (M := mr_23) rfl (show mcode 23 57 = some (57, .getfield 30, 3, 1, 8, 0, _) from rfl) (Or.inr (Or.inr (Or.inr (Or.inr (Or.inr (Or.inr (Or.inr (Or.inl ⟨_, _, rfl, fl_ld c1 r1_8 (by decide) (by decide), rfl⟩)))))))) ?_
      refine XW.fam (S' := (61, [(7, .int t), (6, .int tB), (5, .int tA), (4, .int f), (0, .ref 1), (1, .int u), (2, .int v), (3, .int dd)], [.int v, .ref 8, .int tA], (sh, I, L, R))) (M := mr_23) rfl (show mcode 23 60 = some (60, .iload_n 2, 1, 0, 0, 0, _) from rfl) (Or.inl ⟨.int v, rfl, rfl⟩) ?_
      refine XW.fam (S' := (63, [(7, .int t), (6, .int tB), (5, .int tA), (4, .int f), (0, .ref 1), (1, .int u), (2, .int v), (3, .int dd)], [.int t, .int v, .ref 8, .int tA], (sh, I, L, R))) (M := mr_23) rfl (show mcode 23 61 = some (61, .iload 7, 2, 0, 0, 0, _) from rfl) (Or.inl ⟨.int t, rfl, rfl⟩) ?_
      refine XW.call (d' := d) (mc' := 0) (ms' := 0) (av := [.int v, .int t]) (rest := [.ref 8, .int tA]) (M := mr_23) (Ma := mr_16) rfl (show mcode 23 63 = some (63, .invokestatic 45, 3, 16, 0, 0, _) from rfl) rfl (by decide) (by decide) rfl rfl rfl (show 2 ≤ 8 by decide) (tc_spot) (by omega) (Nat.zero_le _) (Nat.zero_le _) (fun rQ2 wQ2 Q2 => ?_)
      obtain ⟨rfl, rfl⟩ := Q2
      have xhin3 : ((v * 20 + t)).toInt = 20 * v.toInt + t.toInt := ix20 (by omega) (by omega)
      have hin3 : inR (v * 20 + t) 400 = true := inR_of (by omega) (by omega)
      have q4 : (I 8 ((v * 20 + t)).toNatClampNeg).toInt = rwT I 8 v.toInt.toNat t.toInt.toNat := by
        unfold rwT
        have ek : ((v * 20 + t)).toNatClampNeg = 20 * v.toInt.toNat + t.toInt.toNat := by show ((v * 20 + t)).toInt.toNat = _; omega
        rw [ek]
      refine XW.fam (S' := (67, [(7, .int t), (6, .int tB), (5, .int tA), (4, .int f), (0, .ref 1), (1, .int u), (2, .int v), (3, .int dd)], [.int (I 8 ((v * 20 + t)).toNatClampNeg), .int tA], (sh, I, L, R))) (M := mr_23) rfl (show mcode 23 66 = some (66, .iaload, 1, 0, 0, 0, _) from rfl) (Or.inr (Or.inr (Or.inl ⟨_, lda_i c8 hin3, rfl⟩))) ?_
      refine XW.fam (S' := (68, [(7, .int t), (6, .int tB), (5, .int tA), (4, .int f), (0, .ref 1), (1, .int u), (2, .int v), (3, .int dd)], [.int (tA + (I 8 ((v * 20 + t)).toNatClampNeg))], (sh, I, L, R))) (M := mr_23) rfl (show mcode 23 67 = some (67, .iadd, 1, 0, 0, 0, _) from rfl) (Or.inr (Or.inr (Or.inr (Or.inr (Or.inr (Or.inl ⟨_, rfl, rfl⟩)))))) ?_
      refine XW.fam (S' := (70, [(7, .int t), (6, .int tB), (5, .int tA), (4, .int f), (0, .ref 1), (1, .int u), (2, .int v), (3, .int dd)], [.int tB, .int (tA + (I 8 ((v * 20 + t)).toNatClampNeg))], (sh, I, L, R))) (M := mr_23) rfl (show mcode 23 68 = some (68, .iload 6, 2, 0, 0, 0, _) from rfl) (Or.inl ⟨.int tB, rfl, rfl⟩) ?_
      refine XW.fam (S' := (71, [(7, .int t), (6, .int tB), (5, .int tA), (4, .int f), (0, .ref 1), (1, .int u), (2, .int v), (3, .int dd)], [.ref 1, .int tB, .int (tA + (I 8 ((v * 20 + t)).toNatClampNeg))], (sh, I, L, R))) (M := mr_23) rfl (show mcode 23 70 = some (70, .aload_n 0, 1, 0, 0, 0, _) from rfl) (Or.inl ⟨.ref 1, rfl, rfl⟩) ?_
      refine XW.fam (S' := (74, [(7, .int t), (6, .int tB), (5, .int tA), (4, .int f), (0, .ref 1), (1, .int u), (2, .int v), (3, .int dd)], [.ref 8, .int tB, .int (tA + (I 8 ((v * 20 + t)).toNatClampNeg))], (sh, I, L, R))) (M := mr_23) rfl (show mcode 23 71 = some (71, .getfield 30, 3, 1, 8, 0, _) from rfl) (Or.inr (Or.inr (Or.inr (Or.inr (Or.inr (Or.inr (Or.inr (Or.inl ⟨_, _, rfl, fl_ld c1 r1_8 (by decide) (by decide), rfl⟩)))))))) ?_
      refine XW.fam (S' := (75, [(7, .int t), (6, .int tB), (5, .int tA), (4, .int f), (0, .ref 1), (1, .int u), (2, .int v), (3, .int dd)], [.int u, .ref 8, .int tB, .int (tA + (I 8 ((v * 20 + t)).toNatClampNeg))], (sh, I, L, R))) (M := mr_23) rfl (show mcode 23 74 = some (74, .iload_n 1, 1, 0, 0, 0, _) from rfl) (Or.inl ⟨.int u, rfl, rfl⟩) ?_
      refine XW.fam (S' := (77, [(7, .int t), (6, .int tB), (5, .int tA), (4, .int f), (0, .ref 1), (1, .int u), (2, .int v), (3, .int dd)], [.int t, .int u, .ref 8, .int tB, .int (tA + (I 8 ((v * 20 + t)).toNatClampNeg))], (sh, I, L, R))) (M := mr_23) rfl (show mcode 23 75 = some (75, .iload 7, 2, 0, 0, 0, _) from rfl) (Or.inl ⟨.int t, rfl, rfl⟩) ?_
      refine XW.call (d' := d) (mc' := 0) (ms' := 0) (av := [.int u, .int t]) (rest := [.ref 8, .int tB, .int (tA + (I 8 ((v * 20 + t)).toNatClampNeg))]) (M := mr_23) (Ma := mr_16) rfl (show mcode 23 77 = some (77, .invokestatic 45, 3, 16, 0, 0, _) from rfl) rfl (by decide) (by decide) rfl rfl rfl (show 3 ≤ 8 by decide) (tc_spot) (by omega) (Nat.zero_le _) (Nat.zero_le _) (fun rQ5 wQ5 Q5 => ?_)
      obtain ⟨rfl, rfl⟩ := Q5
      have xhin6 : ((u * 20 + t)).toInt = 20 * u.toInt + t.toInt := ix20 (by omega) (by omega)
      have hin6 : inR (u * 20 + t) 400 = true := inR_of (by omega) (by omega)
      have q7 : (I 8 ((u * 20 + t)).toNatClampNeg).toInt = rwT I 8 u.toInt.toNat t.toInt.toNat := by
        unfold rwT
        have ek : ((u * 20 + t)).toNatClampNeg = 20 * u.toInt.toNat + t.toInt.toNat := by show ((u * 20 + t)).toInt.toNat = _; omega
        rw [ek]
      refine XW.fam (S' := (81, [(7, .int t), (6, .int tB), (5, .int tA), (4, .int f), (0, .ref 1), (1, .int u), (2, .int v), (3, .int dd)], [.int (I 8 ((u * 20 + t)).toNatClampNeg), .int tB, .int (tA + (I 8 ((v * 20 + t)).toNatClampNeg))], (sh, I, L, R))) (M := mr_23) rfl (show mcode 23 80 = some (80, .iaload, 1, 0, 0, 0, _) from rfl) (Or.inr (Or.inr (Or.inl ⟨_, lda_i c8 hin6, rfl⟩))) ?_
      refine XW.fam (S' := (82, [(7, .int t), (6, .int tB), (5, .int tA), (4, .int f), (0, .ref 1), (1, .int u), (2, .int v), (3, .int dd)], [.int (tB + (I 8 ((u * 20 + t)).toNatClampNeg)), .int (tA + (I 8 ((v * 20 + t)).toNatClampNeg))], (sh, I, L, R))) (M := mr_23) rfl (show mcode 23 81 = some (81, .iadd, 1, 0, 0, 0, _) from rfl) (Or.inr (Or.inr (Or.inr (Or.inr (Or.inr (Or.inl ⟨_, rfl, rfl⟩)))))) ?_
      refine XW.call (d' := d) (mc' := 0) (ms' := 0) (av := [.int (tA + (I 8 ((v * 20 + t)).toNatClampNeg)), .int (tB + (I 8 ((u * 20 + t)).toNatClampNeg))]) (rest := []) (M := mr_23) (Ma := mr_21) rfl (show mcode 23 82 = some (82, .invokestatic 50, 3, 21, 0, 0, _) from rfl) rfl (by decide) (by decide) rfl rfl rfl (show 0 ≤ 8 by decide) (tc_min) (by omega) (Nat.zero_le _) (Nat.zero_le _) (fun rQ8 wQ8 Q8 => ?_)
      obtain ⟨rfl, rfl⟩ := Q8
      obtain ⟨th, eth⟩ : ∃ z : Int32, z = (if (tB + (I 8 ((u * 20 + t)).toNatClampNeg)) < (tA + (I 8 ((v * 20 + t)).toNatClampNeg)) then (tB + (I 8 ((u * 20 + t)).toNatClampNeg)) else (tA + (I 8 ((v * 20 + t)).toNatClampNeg))) := ⟨_, rfl⟩
      rw [← eth]
      have tth := minI eth
      refine XW.fam (S' := (87, [(8, .int th), (7, .int t), (6, .int tB), (5, .int tA), (4, .int f), (0, .ref 1), (1, .int u), (2, .int v), (3, .int dd)], [], (sh, I, L, R))) (M := mr_23) rfl (show mcode 23 85 = some (85, .istore 8, 2, 0, 0, 0, _) from rfl) (Or.inr (Or.inr (Or.inr (Or.inr (Or.inr (Or.inr (Or.inl ⟨_, [], _, rfl, rfl, rfl⟩))))))) ?_
      have gv : rwT I 8 v.toInt.toNat t.toInt.toNat = rwT J 8 v.toInt.toNat t.toInt.toNat ∨ rwT I 8 v.toInt.toNat t.toInt.toNat = shF (rwT J 8) u.toInt.toNat v.toInt.toNat dd.toInt v.toInt.toNat t.toInt.toNat := by
        by_cases c : (v.toInt.toNat < f.toInt.toNat ∨ (v.toInt.toNat = f.toInt.toNat ∧ t.toInt.toNat < t.toInt.toNat))
        · exact Or.inr ((hmx _ _ (by omega) (by omega)).1 ⟨by omega, by omega, c⟩)
        · exact Or.inl ((hmx _ _ (by omega) (by omega)).2 (fun q => c q.2.2))
      have gu : rwT I 8 u.toInt.toNat t.toInt.toNat = rwT J 8 u.toInt.toNat t.toInt.toNat ∨ rwT I 8 u.toInt.toNat t.toInt.toNat = shF (rwT J 8) u.toInt.toNat v.toInt.toNat dd.toInt u.toInt.toNat t.toInt.toNat := by
        by_cases c : (u.toInt.toNat < f.toInt.toNat ∨ (u.toInt.toNat = f.toInt.toNat ∧ t.toInt.toNat < t.toInt.toNat))
        · exact Or.inr ((hmx _ _ (by omega) (by omega)).1 ⟨by omega, by omega, c⟩)
        · exact Or.inl ((hmx _ _ (by omega) (by omega)).2 (fun q => c q.2.2))
      have gf : rwT I 8 f.toInt.toNat t.toInt.toNat = rwT J 8 f.toInt.toNat t.toInt.toNat := (hmx _ _ (by omega) (by omega)).2 (by omega)
      have p1 := hb8 f.toInt.toNat u.toInt.toNat (by omega) (by omega)
      have p2 := hb8 f.toInt.toNat v.toInt.toNat (by omega) (by omega)
      have p3 := hb8 v.toInt.toNat t.toInt.toNat (by omega) (by omega)
      have p4 := hb8 u.toInt.toNat t.toInt.toNat (by omega) (by omega)
      have p5 := hb8 f.toInt.toNat t.toInt.toNat (by omega) (by omega)
      have p6 := hb8 v.toInt.toNat u.toInt.toNat (by omega) (by omega)
      have p7 := hb8 u.toInt.toNat v.toInt.toNat (by omega) (by omega)
      have d1 := hdg v.toInt.toNat (by omega)
      have d2 := hdg u.toInt.toNat (by omega)
      have r1 := htr f.toInt.toNat u.toInt.toNat t.toInt.toNat (by omega) (by omega) (by omega)
      have r2 := htr f.toInt.toNat v.toInt.toNat t.toInt.toNat (by omega) (by omega) (by omega)
      have k1 := @shF_ok (rwT J 8) u.toInt.toNat v.toInt.toNat dd.toInt v.toInt.toNat t.toInt.toNat
      have k2 := @shF_ok (rwT J 8) u.toInt.toNat v.toInt.toNat dd.toInt u.toInt.toNat t.toInt.toNat
      have k3 := @shF_ok (rwT J 8) u.toInt.toNat v.toInt.toNat dd.toInt f.toInt.toNat t.toInt.toNat
      have s1 : (tA + (I 8 (v * 20 + t).toNatClampNeg)).toInt = tA.toInt + rwT I 8 v.toInt.toNat t.toInt.toNat := by rw [sumS (by omega) (by omega), q4]
      have s2 : (tB + (I 8 (u * 20 + t).toNatClampNeg)).toInt = tB.toInt + rwT I 8 u.toInt.toNat t.toInt.toNat := by rw [sumS (by omega) (by omega), q7]
      rw [s1, s2] at tth
      refine XW.fam (S' := (89, [(8, .int th), (7, .int t), (6, .int tB), (5, .int tA), (4, .int f), (0, .ref 1), (1, .int u), (2, .int v), (3, .int dd)], [.int th], (sh, I, L, R))) (M := mr_23) rfl (show mcode 23 87 = some (87, .iload 8, 2, 0, 0, 0, _) from rfl) (Or.inl ⟨.int th, rfl, rfl⟩) ?_
      refine XW.fam (S' := (90, [(8, .int th), (7, .int t), (6, .int tB), (5, .int tA), (4, .int f), (0, .ref 1), (1, .int u), (2, .int v), (3, .int dd)], [.ref 1, .int th], (sh, I, L, R))) (M := mr_23) rfl (show mcode 23 89 = some (89, .aload_n 0, 1, 0, 0, 0, _) from rfl) (Or.inl ⟨.ref 1, rfl, rfl⟩) ?_
      refine XW.fam (S' := (93, [(8, .int th), (7, .int t), (6, .int tB), (5, .int tA), (4, .int f), (0, .ref 1), (1, .int u), (2, .int v), (3, .int dd)], [.ref 8, .int th], (sh, I, L, R))) (M := mr_23) rfl (show mcode 23 90 = some (90, .getfield 30, 3, 1, 8, 0, _) from rfl) (Or.inr (Or.inr (Or.inr (Or.inr (Or.inr (Or.inr (Or.inr (Or.inl ⟨_, _, rfl, fl_ld c1 r1_8 (by decide) (by decide), rfl⟩)))))))) ?_
      refine XW.fam (S' := (95, [(8, .int th), (7, .int t), (6, .int tB), (5, .int tA), (4, .int f), (0, .ref 1), (1, .int u), (2, .int v), (3, .int dd)], [.int f, .ref 8, .int th], (sh, I, L, R))) (M := mr_23) rfl (show mcode 23 93 = some (93, .iload 4, 2, 0, 0, 0, _) from rfl) (Or.inl ⟨.int f, rfl, rfl⟩) ?_
      refine XW.fam (S' := (97, [(8, .int th), (7, .int t), (6, .int tB), (5, .int tA), (4, .int f), (0, .ref 1), (1, .int u), (2, .int v), (3, .int dd)], [.int t, .int f, .ref 8, .int th], (sh, I, L, R))) (M := mr_23) rfl (show mcode 23 95 = some (95, .iload 7, 2, 0, 0, 0, _) from rfl) (Or.inl ⟨.int t, rfl, rfl⟩) ?_
      refine XW.call (d' := d) (mc' := 0) (ms' := 0) (av := [.int f, .int t]) (rest := [.ref 8, .int th]) (M := mr_23) (Ma := mr_16) rfl (show mcode 23 97 = some (97, .invokestatic 45, 3, 16, 0, 0, _) from rfl) rfl (by decide) (by decide) rfl rfl rfl (show 2 ≤ 8 by decide) (tc_spot) (by omega) (Nat.zero_le _) (Nat.zero_le _) (fun rQ9 wQ9 Q9 => ?_)
      obtain ⟨rfl, rfl⟩ := Q9
      have xhin10 : ((f * 20 + t)).toInt = 20 * f.toInt + t.toInt := ix20 (by omega) (by omega)
      have hin10 : inR (f * 20 + t) 400 = true := inR_of (by omega) (by omega)
      have q11 : (I 8 ((f * 20 + t)).toNatClampNeg).toInt = rwT I 8 f.toInt.toNat t.toInt.toNat := by
        unfold rwT
        have ek : ((f * 20 + t)).toNatClampNeg = 20 * f.toInt.toNat + t.toInt.toNat := by show ((f * 20 + t)).toInt.toNat = _; omega
        rw [ek]
      refine XW.fam (S' := (101, [(8, .int th), (7, .int t), (6, .int tB), (5, .int tA), (4, .int f), (0, .ref 1), (1, .int u), (2, .int v), (3, .int dd)], [.int (I 8 ((f * 20 + t)).toNatClampNeg), .int th], (sh, I, L, R))) (M := mr_23) rfl (show mcode 23 100 = some (100, .iaload, 1, 0, 0, 0, _) from rfl) (Or.inr (Or.inr (Or.inl ⟨_, lda_i c8 hin10, rfl⟩))) ?_
      cases k12 : bcmp .ge th (I 8 ((f * 20 + t)).toNatClampNeg) with
      | true =>
        have gk12 : ((I 8 ((f * 20 + t)).toNatClampNeg)).toInt ≤ (th).toInt := icT (c := .ge) (a := (th).toInt) (b := ((I 8 ((f * 20 + t)).toNatClampNeg)).toInt) rfl rfl k12
        refine XW.fam (S' := (118, [(8, .int th), (7, .int t), (6, .int tB), (5, .int tA), (4, .int f), (0, .ref 1), (1, .int u), (2, .int v), (3, .int dd)], [], (sh, I, L, R))) (M := mr_23) rfl (show mcode 23 101 = some (101, .if_icmp .ge 17, 3, 118, 0, 0, _) from rfl) (Or.inr (Or.inl ⟨118, [], by simp [brn, k12], rfl⟩)) ?_
        refine XW.fam (S' := (121, [(7, .int (t + Int32.ofInt 1)), (8, .int th), (6, .int tB), (5, .int tA), (4, .int f), (0, .ref 1), (1, .int u), (2, .int v), (3, .int dd)], [], (sh, I, L, R))) (M := mr_23) rfl (show mcode 23 118 = some (118, .iinc 7 1, 3, 0, 0, 0, _) from rfl) (Or.inr (Or.inr (Or.inr (Or.inr (Or.inr (Or.inr (Or.inr (Or.inr (Or.inr ⟨7, 1, t, rfl, rfl, by decide, rfl⟩))))))))) ?_
        refine XW.fam (S' := (45, [(7, .int (t + Int32.ofInt 1)), (8, .int th), (6, .int tB), (5, .int tA), (4, .int f), (0, .ref 1), (1, .int u), (2, .int v), (3, .int dd)], [], (sh, I, L, R))) (M := mr_23) rfl (show mcode 23 121 = some (121, .goto (-76), 3, 45, 0, 0, _) from rfl) (Or.inr (Or.inl ⟨45, [], rfl, rfl⟩)) ?_
        have eo := incO (m := t) (by omega) (by omega)
        refine XW.sub (ls' := [(7, .int (t + Int32.ofInt 1)), (6, .int tB), (5, .int tA), (4, .int f), (0, .ref 1), (1, .int u), (2, .int v), (3, .int dd)]) (List.forall_mem_cons.mpr ⟨List.mem_of_getElem? (i := 0) rfl, (List.forall_mem_cons.mpr ⟨List.mem_of_getElem? (i := 2) rfl, (List.forall_mem_cons.mpr ⟨List.mem_of_getElem? (i := 3) rfl, (List.forall_mem_cons.mpr ⟨List.mem_of_getElem? (i := 4) rfl, (List.forall_mem_cons.mpr ⟨List.mem_of_getElem? (i := 5) rfl, (List.forall_mem_cons.mpr ⟨List.mem_of_getElem? (i := 6) rfl, (List.forall_mem_cons.mpr ⟨List.mem_of_getElem? (i := 7) rfl, (List.forall_mem_cons.mpr ⟨List.mem_of_getElem? (i := 8) rfl, (fun _ h => absurd h List.not_mem_nil)⟩)⟩)⟩)⟩)⟩)⟩)⟩)⟩) ?_
        refine ih (t + Int32.ofInt 1) (by omega) (by omega) (by omega) hw hf hkp (fun a b ha hb => ?_) K
        by_cases ce : a = f.toInt.toNat ∧ b = t.toInt.toNat
        · refine ⟨fun _ => ?_, fun q => (q ⟨by omega, by omega, Or.inr ⟨ce.1, by omega⟩⟩).elim⟩
          rw [ce.1, ce.2]
          split at tth
          · rcases gv with gv | gv <;> rcases gu with gu | gu <;> omega
          · rcases gv with gv | gv <;> rcases gu with gu | gu <;> omega
        · have hh := hmx a b ha hb
          exact ⟨fun q => hh.1 (by omega), fun q => hh.2 (by omega)⟩
      | false =>
        have gk12 : ¬ (((I 8 ((f * 20 + t)).toNatClampNeg)).toInt ≤ (th).toInt) := icF (c := .ge) (a := (th).toInt) (b := ((I 8 ((f * 20 + t)).toNatClampNeg)).toInt) rfl rfl k12
        refine XW.fam (S' := (104, [(8, .int th), (7, .int t), (6, .int tB), (5, .int tA), (4, .int f), (0, .ref 1), (1, .int u), (2, .int v), (3, .int dd)], [], (sh, I, L, R))) (M := mr_23) rfl (show mcode 23 101 = some (101, .if_icmp .ge 17, 3, 118, 0, 0, _) from rfl) (Or.inr (Or.inl ⟨104, [], by simp [brn, k12], rfl⟩)) ?_
        refine XW.fam (S' := (105, [(8, .int th), (7, .int t), (6, .int tB), (5, .int tA), (4, .int f), (0, .ref 1), (1, .int u), (2, .int v), (3, .int dd)], [.ref 1], (sh, I, L, R))) (M := mr_23) rfl (show mcode 23 104 = some (104, .aload_n 0, 1, 0, 0, 0, _) from rfl) (Or.inl ⟨.ref 1, rfl, rfl⟩) ?_
        refine XW.fam (S' := (108, [(8, .int th), (7, .int t), (6, .int tB), (5, .int tA), (4, .int f), (0, .ref 1), (1, .int u), (2, .int v), (3, .int dd)], [.ref 8], (sh, I, L, R))) (M := mr_23) rfl (show mcode 23 105 = some (105, .getfield 30, 3, 1, 8, 0, _) from rfl) (Or.inr (Or.inr (Or.inr (Or.inr (Or.inr (Or.inr (Or.inr (Or.inl ⟨_, _, rfl, fl_ld c1 r1_8 (by decide) (by decide), rfl⟩)))))))) ?_
        refine XW.fam (S' := (110, [(8, .int th), (7, .int t), (6, .int tB), (5, .int tA), (4, .int f), (0, .ref 1), (1, .int u), (2, .int v), (3, .int dd)], [.int f, .ref 8], (sh, I, L, R))) (M := mr_23) rfl (show mcode 23 108 = some (108, .iload 4, 2, 0, 0, 0, _) from rfl) (Or.inl ⟨.int f, rfl, rfl⟩) ?_
        refine XW.fam (S' := (112, [(8, .int th), (7, .int t), (6, .int tB), (5, .int tA), (4, .int f), (0, .ref 1), (1, .int u), (2, .int v), (3, .int dd)], [.int t, .int f, .ref 8], (sh, I, L, R))) (M := mr_23) rfl (show mcode 23 110 = some (110, .iload 7, 2, 0, 0, 0, _) from rfl) (Or.inl ⟨.int t, rfl, rfl⟩) ?_
        refine XW.call (d' := d) (mc' := 0) (ms' := 0) (av := [.int f, .int t]) (rest := [.ref 8]) (M := mr_23) (Ma := mr_16) rfl (show mcode 23 112 = some (112, .invokestatic 45, 3, 16, 0, 0, _) from rfl) rfl (by decide) (by decide) rfl rfl rfl (show 1 ≤ 8 by decide) (tc_spot) (by omega) (Nat.zero_le _) (Nat.zero_le _) (fun rQ13 wQ13 Q13 => ?_)
        obtain ⟨rfl, rfl⟩ := Q13
        refine XW.fam (S' := (117, [(8, .int th), (7, .int t), (6, .int tB), (5, .int tA), (4, .int f), (0, .ref 1), (1, .int u), (2, .int v), (3, .int dd)], [.int th, .int (f * 20 + t), .ref 8], (sh, I, L, R))) (M := mr_23) rfl (show mcode 23 115 = some (115, .iload 8, 2, 0, 0, 0, _) from rfl) (Or.inl ⟨.int th, rfl, rfl⟩) ?_
        have xhin14 : ((f * 20 + t)).toInt = 20 * f.toInt + t.toInt := ix20 (by omega) (by omega)
        have hin14 : inR (f * 20 + t) 400 = true := inR_of (by omega) (by omega)
        have q15 : (I 8 ((f * 20 + t)).toNatClampNeg).toInt = rwT I 8 f.toInt.toNat t.toInt.toNat := by
          unfold rwT
          have ek : ((f * 20 + t)).toNatClampNeg = 20 * f.toInt.toNat + t.toInt.toNat := by show ((f * 20 + t)).toInt.toNat = _; omega
          rw [ek]
        obtain ⟨I16, eI16⟩ : ∃ X, X = up2 I 8 ((f * 20 + t)).toNatClampNeg th := ⟨_, rfl⟩
        refine XW.fam (S' := (118, [(8, .int th), (7, .int t), (6, .int tB), (5, .int tA), (4, .int f), (0, .ref 1), (1, .int u), (2, .int v), (3, .int dd)], [], (sh, I16, L, R))) (M := mr_23) rfl (show mcode 23 117 = some (117, .iastore, 1, 0, 0, 0, _) from rfl) (Or.inr (Or.inr (Or.inr (Or.inl ⟨_, _, by rw [eI16]; exact sta_i c8 hin14, rfl⟩)))) ?_
        have hwI16 : wOK (mkT vV []) (wE sh R) (sh, I16, L, R) := by rw [eI16]; exact wOK_u2 (q := 8) (k := ((f * 20 + t)).toNatClampNeg) (x := th) wE_put hw rfl (by show (0 : Int) ≤ _; omega) (by show _ ≤ (1000000 : Int); omega)
        have hfI16 : fresh (sh, I16, L, R) := by rw [eI16]; exact fresh_I hf c8
        have v17 : I16 1 1 = m := by rw [eI16, up2_ne (fun e => by cases e.1)]; exact vm
        have v18 : I16 8 ((f * 20 + t)).toNatClampNeg = th := by rw [eI16]; exact up2_eq
        refine XW.fam (S' := (121, [(7, .int (t + Int32.ofInt 1)), (8, .int th), (6, .int tB), (5, .int tA), (4, .int f), (0, .ref 1), (1, .int u), (2, .int v), (3, .int dd)], [], (sh, I16, L, R))) (M := mr_23) rfl (show mcode 23 118 = some (118, .iinc 7 1, 3, 0, 0, 0, _) from rfl) (Or.inr (Or.inr (Or.inr (Or.inr (Or.inr (Or.inr (Or.inr (Or.inr (Or.inr ⟨7, 1, t, rfl, rfl, by decide, rfl⟩))))))))) ?_
        refine XW.fam (S' := (45, [(7, .int (t + Int32.ofInt 1)), (8, .int th), (6, .int tB), (5, .int tA), (4, .int f), (0, .ref 1), (1, .int u), (2, .int v), (3, .int dd)], [], (sh, I16, L, R))) (M := mr_23) rfl (show mcode 23 121 = some (121, .goto (-76), 3, 45, 0, 0, _) from rfl) (Or.inr (Or.inl ⟨45, [], rfl, rfl⟩)) ?_
        have eo := incO (m := t) (by omega) (by omega)
        have ek : ((f * 20 + t)).toNatClampNeg = 20 * f.toInt.toNat + t.toInt.toNat := by show (f * 20 + t).toInt.toNat = _; have xx := ix20 (a := f) (b := t) (by omega) (by omega); omega
        refine XW.sub (ls' := [(7, .int (t + Int32.ofInt 1)), (6, .int tB), (5, .int tA), (4, .int f), (0, .ref 1), (1, .int u), (2, .int v), (3, .int dd)]) (List.forall_mem_cons.mpr ⟨List.mem_of_getElem? (i := 0) rfl, (List.forall_mem_cons.mpr ⟨List.mem_of_getElem? (i := 2) rfl, (List.forall_mem_cons.mpr ⟨List.mem_of_getElem? (i := 3) rfl, (List.forall_mem_cons.mpr ⟨List.mem_of_getElem? (i := 4) rfl, (List.forall_mem_cons.mpr ⟨List.mem_of_getElem? (i := 5) rfl, (List.forall_mem_cons.mpr ⟨List.mem_of_getElem? (i := 6) rfl, (List.forall_mem_cons.mpr ⟨List.mem_of_getElem? (i := 7) rfl, (List.forall_mem_cons.mpr ⟨List.mem_of_getElem? (i := 8) rfl, (fun _ h => absurd h List.not_mem_nil)⟩)⟩)⟩)⟩)⟩)⟩)⟩)⟩) ?_
        refine ih (t + Int32.ofInt 1) (by omega) (by omega) (by omega) hwI16 hfI16 (fun q k hq => by rw [eI16, up2_ne (fun e => hq e.1)]; exact hkp q k hq) (fun a b ha hb => ?_) K
        by_cases ce : a = f.toInt.toNat ∧ b = t.toInt.toNat
        · refine ⟨fun _ => ?_, fun q => (q ⟨by omega, by omega, Or.inr ⟨ce.1, by omega⟩⟩).elim⟩
          rw [eI16, ce.1, ce.2, rwT_eq ek]
          split at tth
          · rcases gv with gv | gv <;> rcases gu with gu | gu <;> omega
          · rcases gv with gv | gv <;> rcases gu with gu | gu <;> omega
        · have hh := hmx a b ha hb
          rw [eI16, rwT_ne ek (by omega) (by omega) ce]
          exact ⟨fun q => hh.1 (by omega), fun q => hh.2 (by omega)⟩
theorem sh_out {d : Nat} {sh : List mE} {J : Nat → Nat → Int32} {L : Nat → Nat → Int64} {R : Nat → Nat → Option Nat} {m u v dd : Int32} (hm0 : 0 ≤ m.toInt) (hm1 : m.toInt ≤ 20) (em : J 1 1 = m) (hu : 0 ≤ u.toInt ∧ u.toInt < m.toInt) (hv : 0 ≤ v.toInt ∧ v.toInt < m.toInt) (hd : 1 ≤ dd.toInt ∧ dd.toInt ≤ 9) (hdg : ∀ a, a < m.toInt.toNat → rwT J 8 a a = 0) (hb8 : ∀ a b, a < m.toInt.toNat → b < m.toInt.toNat → 0 ≤ rwT J 8 a b ∧ rwT J 8 a b ≤ 1000000) (htr : ∀ a b c, a < m.toInt.toNat → b < m.toInt.toNat → c < m.toInt.toNat → rwT J 8 a c ≤ rwT J 8 a b + rwT J 8 b c) : ∀ (z : Nat) {I : Nat → Nat → Int32} (f : Int32), 0 ≤ f.toInt → f.toInt ≤ m.toInt → m.toInt - f.toInt < z → wOK (mkT vV []) (wE sh R) (sh, I, L, R) → fresh (sh, I, L, R) → (∀ q k, ¬ q = 8 → I q k = J q k) → (∀ a b : Nat, a < 20 → b < 20 → ((a < m.toInt.toNat ∧ b < m.toInt.toNat ∧ a < f.toInt.toNat) → rwT I 8 a b = shF (rwT J 8) u.toInt.toNat v.toInt.toNat dd.toInt a b) ∧ (¬ (a < m.toInt.toNat ∧ b < m.toInt.toNat ∧ a < f.toInt.toNat) → rwT I 8 a b = rwT J 8 a b)) → XW 23 mr_23 none (d + 1) 0 0 (fun r w' => r = none ∧ fresh w' ∧ wOK (mkT vV []) (wE sh R) w' ∧ (∀ q k, ¬ q = 8 → w'.2.1 q k = J q k) ∧ (∀ a b : Nat, a < m.toInt.toNat → b < m.toInt.toNat → rwT w'.2.1 8 a b = shF (rwT J 8) u.toInt.toNat v.toInt.toNat dd.toInt a b) ∧ ∀ a b : Nat, a < 20 → b < 20 → ¬ (a < m.toInt.toNat ∧ b < m.toInt.toNat) → rwT w'.2.1 8 a b = rwT J 8 a b) (3, [(4, .int f), (0, .ref 1), (1, .int u), (2, .int v), (3, .int dd)], [], (sh, I, L, R)) := by
  have z0 : (0 : Int32).toInt = 0 := rfl
  intro z
  induction z with
  | zero =>
    intro I f h1 h2 hz hw hf hkp hmx
    have c1 : sh[1]? = some (.inr 1) := hw.1 1 _ rfl
    have c8 : sh[8]? = some (.inl (.int, 400)) := hw.1 8 _ rfl
    have r1_8 : R 1 8 = some 8 := hw.2.1 1 8 _ rfl
    have vm : I 1 1 = m := (hkp 1 1 (by decide)).trans em
    refine XW.fam (S' := (5, [(4, .int f), (0, .ref 1), (1, .int u), (2, .int v), (3, .int dd)], [.int f], (sh, I, L, R))) (M := mr_23) rfl (show mcode 23 3 = some (3, .iload 4, 2, 0, 0, 0, _) from rfl) (Or.inl ⟨.int f, rfl, rfl⟩) ?_
    refine XW.fam (S' := (6, [(4, .int f), (0, .ref 1), (1, .int u), (2, .int v), (3, .int dd)], [.ref 1, .int f], (sh, I, L, R))) (M := mr_23) rfl (show mcode 23 5 = some (5, .aload_n 0, 1, 0, 0, 0, _) from rfl) (Or.inl ⟨.ref 1, rfl, rfl⟩) ?_
    refine XW.fam (S' := (9, [(4, .int f), (0, .ref 1), (1, .int u), (2, .int v), (3, .int dd)], [.int (I 1 1), .int f], (sh, I, L, R))) (M := mr_23) rfl (show mcode 23 6 = some (6, .getfield 33, 3, 1, 1, 0, _) from rfl) (Or.inr (Or.inr (Or.inr (Or.inr (Or.inr (Or.inr (Or.inr (Or.inl ⟨_, _, rfl, fl_ldI c1 (by decide) (by decide), rfl⟩)))))))) ?_
    rw [vm]
    have k1 : bcmp .ge f m = true := bcT (c := .ge) (a := (f).toInt) (b := (m).toInt) rfl rfl (by show (m).toInt ≤ (f).toInt; omega)
    refine XW.fam (S' := (130, [(4, .int f), (0, .ref 1), (1, .int u), (2, .int v), (3, .int dd)], [], (sh, I, L, R))) (M := mr_23) rfl (show mcode 23 9 = some (9, .if_icmp .ge 121, 3, 130, 0, 0, _) from rfl) (Or.inr (Or.inl ⟨130, [], by simp [brn, k1], rfl⟩)) ?_
    refine XW.ret (r := none) ⟨rfl, by decide +kernel⟩ ?_
    exact ⟨rfl, hf, hw, hkp, fun a b ha hb => (hmx a b (by omega) (by omega)).1 ⟨ha, hb, by omega⟩, fun a b ha hb hn => (hmx a b ha hb).2 (fun q => hn ⟨q.1, q.2.1⟩)⟩
  | succ z ih =>
    intro I f h1 h2 hz hw hf hkp hmx
    have c1 : sh[1]? = some (.inr 1) := hw.1 1 _ rfl
    have c8 : sh[8]? = some (.inl (.int, 400)) := hw.1 8 _ rfl
    have r1_8 : R 1 8 = some 8 := hw.2.1 1 8 _ rfl
    have vm : I 1 1 = m := (hkp 1 1 (by decide)).trans em
    refine XW.fam (S' := (5, [(4, .int f), (0, .ref 1), (1, .int u), (2, .int v), (3, .int dd)], [.int f], (sh, I, L, R))) (M := mr_23) rfl (show mcode 23 3 = some (3, .iload 4, 2, 0, 0, 0, _) from rfl) (Or.inl ⟨.int f, rfl, rfl⟩) ?_
    refine XW.fam (S' := (6, [(4, .int f), (0, .ref 1), (1, .int u), (2, .int v), (3, .int dd)], [.ref 1, .int f], (sh, I, L, R))) (M := mr_23) rfl (show mcode 23 5 = some (5, .aload_n 0, 1, 0, 0, 0, _) from rfl) (Or.inl ⟨.ref 1, rfl, rfl⟩) ?_
    refine XW.fam (S' := (9, [(4, .int f), (0, .ref 1), (1, .int u), (2, .int v), (3, .int dd)], [.int (I 1 1), .int f], (sh, I, L, R))) (M := mr_23) rfl (show mcode 23 6 = some (6, .getfield 33, 3, 1, 1, 0, _) from rfl) (Or.inr (Or.inr (Or.inr (Or.inr (Or.inr (Or.inr (Or.inr (Or.inl ⟨_, _, rfl, fl_ldI c1 (by decide) (by decide), rfl⟩)))))))) ?_
    rw [vm]
    cases k1 : bcmp .ge f m with
    | true =>
      have gk1 : (m).toInt ≤ (f).toInt := icT (c := .ge) (a := (f).toInt) (b := (m).toInt) rfl rfl k1
      refine XW.fam (S' := (130, [(4, .int f), (0, .ref 1), (1, .int u), (2, .int v), (3, .int dd)], [], (sh, I, L, R))) (M := mr_23) rfl (show mcode 23 9 = some (9, .if_icmp .ge 121, 3, 130, 0, 0, _) from rfl) (Or.inr (Or.inl ⟨130, [], by simp [brn, k1], rfl⟩)) ?_
      refine XW.ret (r := none) ⟨rfl, by decide +kernel⟩ ?_
      exact ⟨rfl, hf, hw, hkp, fun a b ha hb => (hmx a b (by omega) (by omega)).1 ⟨ha, hb, by omega⟩, fun a b ha hb hn => (hmx a b ha hb).2 (fun q => hn ⟨q.1, q.2.1⟩)⟩
    | false =>
      have gk1 : ¬ ((m).toInt ≤ (f).toInt) := icF (c := .ge) (a := (f).toInt) (b := (m).toInt) rfl rfl k1
      refine XW.fam (S' := (12, [(4, .int f), (0, .ref 1), (1, .int u), (2, .int v), (3, .int dd)], [], (sh, I, L, R))) (M := mr_23) rfl (show mcode 23 9 = some (9, .if_icmp .ge 121, 3, 130, 0, 0, _) from rfl) (Or.inr (Or.inl ⟨12, [], by simp [brn, k1], rfl⟩)) ?_
      refine XW.fam (S' := (13, [(4, .int f), (0, .ref 1), (1, .int u), (2, .int v), (3, .int dd)], [.ref 1], (sh, I, L, R))) (M := mr_23) rfl (show mcode 23 12 = some (12, .aload_n 0, 1, 0, 0, 0, _) from rfl) (Or.inl ⟨.ref 1, rfl, rfl⟩) ?_
      refine XW.fam (S' := (16, [(4, .int f), (0, .ref 1), (1, .int u), (2, .int v), (3, .int dd)], [.ref 8], (sh, I, L, R))) (M := mr_23) rfl (show mcode 23 13 = some (13, .getfield 30, 3, 1, 8, 0, _) from rfl) (Or.inr (Or.inr (Or.inr (Or.inr (Or.inr (Or.inr (Or.inr (Or.inl ⟨_, _, rfl, fl_ld c1 r1_8 (by decide) (by decide), rfl⟩)))))))) ?_
      refine XW.fam (S' := (18, [(4, .int f), (0, .ref 1), (1, .int u), (2, .int v), (3, .int dd)], [.int f, .ref 8], (sh, I, L, R))) (M := mr_23) rfl (show mcode 23 16 = some (16, .iload 4, 2, 0, 0, 0, _) from rfl) (Or.inl ⟨.int f, rfl, rfl⟩) ?_
      refine XW.fam (S' := (19, [(4, .int f), (0, .ref 1), (1, .int u), (2, .int v), (3, .int dd)], [.int u, .int f, .ref 8], (sh, I, L, R))) (M := mr_23) rfl (show mcode 23 18 = some (18, .iload_n 1, 1, 0, 0, 0, _) from rfl) (Or.inl ⟨.int u, rfl, rfl⟩) ?_
      refine XW.call (d' := d) (mc' := 0) (ms' := 0) (av := [.int f, .int u]) (rest := [.ref 8]) (M := mr_23) (Ma := mr_16) rfl (show mcode 23 19 = some (19, .invokestatic 45, 3, 16, 0, 0, _) from rfl) rfl (by decide) (by decide) rfl rfl rfl (show 1 ≤ 8 by decide) (tc_spot) (by omega) (Nat.zero_le _) (Nat.zero_le _) (fun rQ2 wQ2 Q2 => ?_)
      obtain ⟨rfl, rfl⟩ := Q2
      have xhin3 : ((f * 20 + u)).toInt = 20 * f.toInt + u.toInt := ix20 (by omega) (by omega)
      have hin3 : inR (f * 20 + u) 400 = true := inR_of (by omega) (by omega)
      have q4 : (I 8 ((f * 20 + u)).toNatClampNeg).toInt = rwT I 8 f.toInt.toNat u.toInt.toNat := by
        unfold rwT
        have ek : ((f * 20 + u)).toNatClampNeg = 20 * f.toInt.toNat + u.toInt.toNat := by show ((f * 20 + u)).toInt.toNat = _; omega
        rw [ek]
      refine XW.fam (S' := (23, [(4, .int f), (0, .ref 1), (1, .int u), (2, .int v), (3, .int dd)], [.int (I 8 ((f * 20 + u)).toNatClampNeg)], (sh, I, L, R))) (M := mr_23) rfl (show mcode 23 22 = some (22, .iaload, 1, 0, 0, 0, _) from rfl) (Or.inr (Or.inr (Or.inl ⟨_, lda_i c8 hin3, rfl⟩))) ?_
      refine XW.fam (S' := (24, [(4, .int f), (0, .ref 1), (1, .int u), (2, .int v), (3, .int dd)], [.int dd, .int (I 8 ((f * 20 + u)).toNatClampNeg)], (sh, I, L, R))) (M := mr_23) rfl (show mcode 23 23 = some (23, .iload_n 3, 1, 0, 0, 0, _) from rfl) (Or.inl ⟨.int dd, rfl, rfl⟩) ?_
      refine XW.fam (S' := (25, [(4, .int f), (0, .ref 1), (1, .int u), (2, .int v), (3, .int dd)], [.int ((I 8 ((f * 20 + u)).toNatClampNeg) + dd)], (sh, I, L, R))) (M := mr_23) rfl (show mcode 23 24 = some (24, .iadd, 1, 0, 0, 0, _) from rfl) (Or.inr (Or.inr (Or.inr (Or.inr (Or.inr (Or.inl ⟨_, rfl, rfl⟩)))))) ?_
      refine XW.fam (S' := (27, [(5, .int ((I 8 ((f * 20 + u)).toNatClampNeg) + dd)), (4, .int f), (0, .ref 1), (1, .int u), (2, .int v), (3, .int dd)], [], (sh, I, L, R))) (M := mr_23) rfl (show mcode 23 25 = some (25, .istore 5, 2, 0, 0, 0, _) from rfl) (Or.inr (Or.inr (Or.inr (Or.inr (Or.inr (Or.inr (Or.inl ⟨_, [], _, rfl, rfl, rfl⟩))))))) ?_
      refine XW.fam (S' := (28, [(5, .int ((I 8 ((f * 20 + u)).toNatClampNeg) + dd)), (4, .int f), (0, .ref 1), (1, .int u), (2, .int v), (3, .int dd)], [.ref 1], (sh, I, L, R))) (M := mr_23) rfl (show mcode 23 27 = some (27, .aload_n 0, 1, 0, 0, 0, _) from rfl) (Or.inl ⟨.ref 1, rfl, rfl⟩) ?_
      refine XW.fam (S' := (31, [(5, .int ((I 8 ((f * 20 + u)).toNatClampNeg) + dd)), (4, .int f), (0, .ref 1), (1, .int u), (2, .int v), (3, .int dd)], [.ref 8], (sh, I, L, R))) (M := mr_23) rfl (show mcode 23 28 = some (28, .getfield 30, 3, 1, 8, 0, _) from rfl) (Or.inr (Or.inr (Or.inr (Or.inr (Or.inr (Or.inr (Or.inr (Or.inl ⟨_, _, rfl, fl_ld c1 r1_8 (by decide) (by decide), rfl⟩)))))))) ?_
      refine XW.fam (S' := (33, [(5, .int ((I 8 ((f * 20 + u)).toNatClampNeg) + dd)), (4, .int f), (0, .ref 1), (1, .int u), (2, .int v), (3, .int dd)], [.int f, .ref 8], (sh, I, L, R))) (M := mr_23) rfl (show mcode 23 31 = some (31, .iload 4, 2, 0, 0, 0, _) from rfl) (Or.inl ⟨.int f, rfl, rfl⟩) ?_
      refine XW.fam (S' := (34, [(5, .int ((I 8 ((f * 20 + u)).toNatClampNeg) + dd)), (4, .int f), (0, .ref 1), (1, .int u), (2, .int v), (3, .int dd)], [.int v, .int f, .ref 8], (sh, I, L, R))) (M := mr_23) rfl (show mcode 23 33 = some (33, .iload_n 2, 1, 0, 0, 0, _) from rfl) (Or.inl ⟨.int v, rfl, rfl⟩) ?_
      refine XW.call (d' := d) (mc' := 0) (ms' := 0) (av := [.int f, .int v]) (rest := [.ref 8]) (M := mr_23) (Ma := mr_16) rfl (show mcode 23 34 = some (34, .invokestatic 45, 3, 16, 0, 0, _) from rfl) rfl (by decide) (by decide) rfl rfl rfl (show 1 ≤ 8 by decide) (tc_spot) (by omega) (Nat.zero_le _) (Nat.zero_le _) (fun rQ5 wQ5 Q5 => ?_)
      obtain ⟨rfl, rfl⟩ := Q5
      have xhin6 : ((f * 20 + v)).toInt = 20 * f.toInt + v.toInt := ix20 (by omega) (by omega)
      have hin6 : inR (f * 20 + v) 400 = true := inR_of (by omega) (by omega)
      have q7 : (I 8 ((f * 20 + v)).toNatClampNeg).toInt = rwT I 8 f.toInt.toNat v.toInt.toNat := by
        unfold rwT
        have ek : ((f * 20 + v)).toNatClampNeg = 20 * f.toInt.toNat + v.toInt.toNat := by show ((f * 20 + v)).toInt.toNat = _; omega
        rw [ek]
      refine XW.fam (S' := (38, [(5, .int ((I 8 ((f * 20 + u)).toNatClampNeg) + dd)), (4, .int f), (0, .ref 1), (1, .int u), (2, .int v), (3, .int dd)], [.int (I 8 ((f * 20 + v)).toNatClampNeg)], (sh, I, L, R))) (M := mr_23) rfl (show mcode 23 37 = some (37, .iaload, 1, 0, 0, 0, _) from rfl) (Or.inr (Or.inr (Or.inl ⟨_, lda_i c8 hin6, rfl⟩))) ?_
      refine XW.fam (S' := (39, [(5, .int ((I 8 ((f * 20 + u)).toNatClampNeg) + dd)), (4, .int f), (0, .ref 1), (1, .int u), (2, .int v), (3, .int dd)], [.int dd, .int (I 8 ((f * 20 + v)).toNatClampNeg)], (sh, I, L, R))) (M := mr_23) rfl (show mcode 23 38 = some (38, .iload_n 3, 1, 0, 0, 0, _) from rfl) (Or.inl ⟨.int dd, rfl, rfl⟩) ?_
      refine XW.fam (S' := (40, [(5, .int ((I 8 ((f * 20 + u)).toNatClampNeg) + dd)), (4, .int f), (0, .ref 1), (1, .int u), (2, .int v), (3, .int dd)], [.int ((I 8 ((f * 20 + v)).toNatClampNeg) + dd)], (sh, I, L, R))) (M := mr_23) rfl (show mcode 23 39 = some (39, .iadd, 1, 0, 0, 0, _) from rfl) (Or.inr (Or.inr (Or.inr (Or.inr (Or.inr (Or.inl ⟨_, rfl, rfl⟩)))))) ?_
      refine XW.fam (S' := (42, [(6, .int ((I 8 ((f * 20 + v)).toNatClampNeg) + dd)), (5, .int ((I 8 ((f * 20 + u)).toNatClampNeg) + dd)), (4, .int f), (0, .ref 1), (1, .int u), (2, .int v), (3, .int dd)], [], (sh, I, L, R))) (M := mr_23) rfl (show mcode 23 40 = some (40, .istore 6, 2, 0, 0, 0, _) from rfl) (Or.inr (Or.inr (Or.inr (Or.inr (Or.inr (Or.inr (Or.inl ⟨_, [], _, rfl, rfl, rfl⟩))))))) ?_
      refine XW.fam (S' := (43, [(6, .int ((I 8 ((f * 20 + v)).toNatClampNeg) + dd)), (5, .int ((I 8 ((f * 20 + u)).toNatClampNeg) + dd)), (4, .int f), (0, .ref 1), (1, .int u), (2, .int v), (3, .int dd)], [.int 0], (sh, I, L, R))) (M := mr_23) rfl (show mcode 23 42 = some (42, .iconst 0, 1, 0, 0, 0, _) from rfl) (Or.inl ⟨.int 0, rfl, rfl⟩) ?_
      refine XW.fam (S' := (45, [(7, .int 0), (6, .int ((I 8 ((f * 20 + v)).toNatClampNeg) + dd)), (5, .int ((I 8 ((f * 20 + u)).toNatClampNeg) + dd)), (4, .int f), (0, .ref 1), (1, .int u), (2, .int v), (3, .int dd)], [], (sh, I, L, R))) (M := mr_23) rfl (show mcode 23 43 = some (43, .istore 7, 2, 0, 0, 0, _) from rfl) (Or.inr (Or.inr (Or.inr (Or.inr (Or.inr (Or.inr (Or.inl ⟨_, [], _, rfl, rfl, rfl⟩))))))) ?_
      have p1 := hb8 f.toInt.toNat u.toInt.toNat (by omega) (by omega)
      have p2 := hb8 f.toInt.toNat v.toInt.toNat (by omega) (by omega)
      have g1 : rwT I 8 f.toInt.toNat u.toInt.toNat = rwT J 8 f.toInt.toNat u.toInt.toNat := (hmx _ _ (by omega) (by omega)).2 (by omega)
      have g2 : rwT I 8 f.toInt.toNat v.toInt.toNat = rwT J 8 f.toInt.toNat v.toInt.toNat := (hmx _ _ (by omega) (by omega)).2 (by omega)
      obtain ⟨tA, etA⟩ : ∃ z : Int32, ((I 8 ((f * 20 + u)).toNatClampNeg) + dd) = z := ⟨_, rfl⟩
      obtain ⟨tB, etB⟩ : ∃ z : Int32, ((I 8 ((f * 20 + v)).toNatClampNeg) + dd) = z := ⟨_, rfl⟩
      have hA : tA.toInt = rwT J 8 f.toInt.toNat u.toInt.toNat + dd.toInt := by rw [← etA, sumS (by omega) (by omega), q4, g1]
      have hB : tB.toInt = rwT J 8 f.toInt.toNat v.toInt.toNat + dd.toInt := by rw [← etB, sumS (by omega) (by omega), q7, g2]
      rw [etA, etB]
      refine XW.sub (ls' := [(7, .int 0), (6, .int tB), (5, .int tA), (4, .int f), (0, .ref 1), (1, .int u), (2, .int v), (3, .int dd)]) (List.forall_mem_cons.mpr ⟨List.mem_of_getElem? (i := 0) rfl, (List.forall_mem_cons.mpr ⟨List.mem_of_getElem? (i := 1) rfl, (List.forall_mem_cons.mpr ⟨List.mem_of_getElem? (i := 2) rfl, (List.forall_mem_cons.mpr ⟨List.mem_of_getElem? (i := 3) rfl, (List.forall_mem_cons.mpr ⟨List.mem_of_getElem? (i := 4) rfl, (List.forall_mem_cons.mpr ⟨List.mem_of_getElem? (i := 5) rfl, (List.forall_mem_cons.mpr ⟨List.mem_of_getElem? (i := 6) rfl, (List.forall_mem_cons.mpr ⟨List.mem_of_getElem? (i := 7) rfl, (fun _ h => absurd h List.not_mem_nil)⟩)⟩)⟩)⟩)⟩)⟩)⟩)⟩) ?_
      refine sh_in (d := d) hm0 hm1 em hu hv hd hdg hb8 htr hA hB (by omega) 21 0 (by decide) (by omega) (by omega) hw hf hkp (fun a b ha hb => ⟨fun q => (hmx a b ha hb).1 (by omega), fun q => (hmx a b ha hb).2 (by omega)⟩) (fun {I2} hw2 hf2 hkp2 hmx2 t => ?_)
      have vm2 : I2 1 1 = m := (hkp2 1 1 (by decide)).trans em
      refine XW.fam (S' := (127, [(4, .int (f + Int32.ofInt 1)), (7, .int t), (6, .int tB), (5, .int tA), (0, .ref 1), (1, .int u), (2, .int v), (3, .int dd)], [], (sh, I2, L, R))) (M := mr_23) rfl (show mcode 23 124 = some (124, .iinc 4 1, 3, 0, 0, 0, _) from rfl) (Or.inr (Or.inr (Or.inr (Or.inr (Or.inr (Or.inr (Or.inr (Or.inr (Or.inr ⟨4, 1, f, rfl, rfl, by decide, rfl⟩))))))))) ?_
      refine XW.fam (S' := (3, [(4, .int (f + Int32.ofInt 1)), (7, .int t), (6, .int tB), (5, .int tA), (0, .ref 1), (1, .int u), (2, .int v), (3, .int dd)], [], (sh, I2, L, R))) (M := mr_23) rfl (show mcode 23 127 = some (127, .goto (-124), 3, 3, 0, 0, _) from rfl) (Or.inr (Or.inl ⟨3, [], rfl, rfl⟩)) ?_
      have eo := incO (m := f) (by omega) (by omega)
      refine XW.sub (ls' := [(4, .int (f + Int32.ofInt 1)), (0, .ref 1), (1, .int u), (2, .int v), (3, .int dd)]) (List.forall_mem_cons.mpr ⟨List.mem_of_getElem? (i := 0) rfl, (List.forall_mem_cons.mpr ⟨List.mem_of_getElem? (i := 4) rfl, (List.forall_mem_cons.mpr ⟨List.mem_of_getElem? (i := 5) rfl, (List.forall_mem_cons.mpr ⟨List.mem_of_getElem? (i := 6) rfl, (List.forall_mem_cons.mpr ⟨List.mem_of_getElem? (i := 7) rfl, (fun _ h => absurd h List.not_mem_nil)⟩)⟩)⟩)⟩)⟩) ?_
      exact ih (f + Int32.ofInt 1) (by omega) (by omega) (by omega) hw2 hf2 hkp2 (fun a b ha hb => ⟨fun q => (hmx2 a b ha hb).1 (by omega), fun q => (hmx2 a b ha hb).2 (by omega)⟩)
theorem tc_short {d : Nat} {sh : List mE} {I : Nat → Nat → Int32} {L : Nat → Nat → Int64} {R : Nat → Nat → Option Nat} {m u v dd : Int32} (hw : wOK (mkT vV []) (wE sh R) (sh, I, L, R)) (hf : fresh (sh, I, L, R)) (hm0 : 0 ≤ m.toInt) (hm1 : m.toInt ≤ 20) (em : I 1 1 = m) (hu : 0 ≤ u.toInt ∧ u.toInt < m.toInt) (hv : 0 ≤ v.toInt ∧ v.toInt < m.toInt) (hd : 1 ≤ dd.toInt ∧ dd.toInt ≤ 9) (hdg : ∀ a, a < m.toInt.toNat → rwT I 8 a a = 0) (hb8 : ∀ a b, a < m.toInt.toNat → b < m.toInt.toNat → 0 ≤ rwT I 8 a b ∧ rwT I 8 a b ≤ 1000000) (htr : ∀ a b c, a < m.toInt.toNat → b < m.toInt.toNat → c < m.toInt.toNat → rwT I 8 a c ≤ rwT I 8 a b + rwT I 8 b c) : Tc 23 (d + 1) 0 0 [.ref 1, .int u, .int v, .int dd] (sh, I, L, R) (fun r w' => r = none ∧ fresh w' ∧ wOK (mkT vV []) (wE sh R) w' ∧ (∀ q k, ¬ q = 8 → w'.2.1 q k = I q k) ∧ (∀ a b : Nat, a < m.toInt.toNat → b < m.toInt.toNat → rwT w'.2.1 8 a b = shF (rwT I 8) u.toInt.toNat v.toInt.toNat dd.toInt a b) ∧ ∀ a b : Nat, a < 20 → b < 20 → ¬ (a < m.toInt.toNat ∧ b < m.toInt.toNat) → rwT w'.2.1 8 a b = rwT I 8 a b) := by
  have z0 : (0 : Int32).toInt = 0 := rfl
  refine Tc.of mr_23 rfl (show 4 ≤ mr_23.2.2.2.1 by decide) ?_
  refine XW.fam (S' := (1, [(0, .ref 1), (1, .int u), (2, .int v), (3, .int dd)], [.int 0], (sh, I, L, R))) (M := mr_23) rfl (show mcode 23 0 = some (0, .iconst 0, 1, 0, 0, 0, _) from rfl) (Or.inl ⟨.int 0, rfl, rfl⟩) ?_
  refine XW.fam (S' := (3, [(4, .int 0), (0, .ref 1), (1, .int u), (2, .int v), (3, .int dd)], [], (sh, I, L, R))) (M := mr_23) rfl (show mcode 23 1 = some (1, .istore 4, 2, 0, 0, 0, _) from rfl) (Or.inr (Or.inr (Or.inr (Or.inr (Or.inr (Or.inr (Or.inl ⟨_, [], _, rfl, rfl, rfl⟩))))))) ?_
  refine XW.sub (ls' := [(4, .int 0), (0, .ref 1), (1, .int u), (2, .int v), (3, .int dd)]) (List.forall_mem_cons.mpr ⟨List.mem_of_getElem? (i := 0) rfl, (List.forall_mem_cons.mpr ⟨List.mem_of_getElem? (i := 1) rfl, (List.forall_mem_cons.mpr ⟨List.mem_of_getElem? (i := 2) rfl, (List.forall_mem_cons.mpr ⟨List.mem_of_getElem? (i := 3) rfl, (List.forall_mem_cons.mpr ⟨List.mem_of_getElem? (i := 4) rfl, (fun _ h => absurd h List.not_mem_nil)⟩)⟩)⟩)⟩)⟩) ?_
  exact sh_out (d := d) (J := I) hm0 hm1 em hu hv hd hdg hb8 htr 21 0 (by decide) (by omega) (by omega) hw hf (fun _ _ _ => rfl) (fun a b ha hb => ⟨fun q => absurd q.2.2 (Nat.not_lt_zero _), fun _ => rfl⟩)
