/-! ===== loops: Arrays.fill where the value lies there already ===== -/
theorem up2_same {α : Type} {f : Nat → Nat → α} {q k : Nat} {v : α} (h : f q k = v) : up2 f q k v = f := by
  funext i j
  unfold up2
  split
  · next hi =>
    split
    · next hj => rw [hi, hj, h]
    · rfl
  · rfl
theorem up2_up2 {α : Type} {f : Nat → Nat → α} {q k : Nat} {u v : α} : up2 (up2 f q k u) q k v = up2 f q k v := by
  funext i j
  unfold up2
  split
  · split <;> rfl
  · rfl
theorem XF.alen {X : mX} {dd mc ms : Nat} {Q : Option Value → mW → Prop} {j pc q n : Nat} {ty : FieldType} {ls : mL} {r : List Value} {fs : List mFr} {w : mW} {M : mMt} {pc0 len a b h : Nat} {v : Int} (hdd : 41 ≤ dd) (hM : mt j = some M) (he : mcode j pc = some (pc0, .arraylength, len, a, b, v, h)) (hsh : w.1[q]? = some (.inl (ty, n))) (K : XF X dd mc ms Q (j, pc + 1, ls, .int (nI n) :: r) fs w) : XF X dd mc ms Q (j, pc, ls, .ref q :: r) fs w := by
  refine cstep_ok (k := 0) (n := 0) (t' := (j, pc + 1, ls, .int (nI n) :: r)) (fs' := fs) (w' := w) ?_ hdd (Nat.zero_le _) (Nat.zero_le _) K
  simp [cstep, step2, hM, he, psh, brn, lda, hsh, nI]
theorem XF.last {X : mX} {dd mc ms : Nat} {Q : Option Value → mW → Prop} {j pc q n : Nat} {ls : mL} {r : List Value} {fs : List mFr} {sh : List mE} {I : Nat → Nat → Int32} {L : Nat → Nat → Int64} {R : Nat → Nat → Option Nat} {M : mMt} {pc0 len a b h : Nat} {v : Int} {i : Int32} {x : Int64} (hdd : 41 ≤ dd) (hM : mt j = some M) (he : mcode j pc = some (pc0, .lastore, len, a, b, v, h)) (hsh : sh[q]? = some (.inl (.long, n))) (hin : inR i n = true) (K : XF X dd mc ms Q (j, pc + 1, ls, r) fs (sh, I, up2 L q i.toNatClampNeg x, R)) : XF X dd mc ms Q (j, pc, ls, .long x :: .int i :: .ref q :: r) fs (sh, I, L, R) := by
  refine cstep_ok (k := 0) (n := 0) (t' := (j, pc + 1, ls, r)) (fs' := fs) (w' := (sh, I, up2 L q i.toNatClampNeg x, R)) ?_ hdd (Nat.zero_le _) (Nat.zero_le _) K
  simp [cstep, step2, hM, he, psh, brn, lda, sta, hsh, aok, hin]
theorem inR_nI {k n : Nat} (h : k < n) (hn : n < 2 ^ 31) : inR (nI k) n = true := by
  refine inR_of ?_ ?_ <;> rw [nI_toInt (by omega)] <;> omega
set_option maxRecDepth 100000 in
set_option maxHeartbeats 4000000 in
/-- Arrays.fill(a, v), its loop -/
theorem fill_loop {X : mX} {dd mc ms : Nat} {Q : Option Value → mW → Prop} (hdd : 41 ≤ dd) {q n : Nat} {v : Int32} {sh : List mE} {I : Nat → Nat → Int32} {L : Nat → Nat → Int64} {R : Nat → Nat → Option Nat} (hsh : sh[q]? = some (.inl (.int, n))) (hn : n < 2 ^ 31) (hI : ∀ j, j < n → I q j = v) {f : mFr} {fs : List mFr} (K : XF X dd mc ms Q f fs (sh, I, L, R)) :
    ∀ (m k : Nat), k + m = n → XF X dd mc ms Q (4, 5, [(2, .int (nI k)), (3, .int (nI n)), (0, .ref q), (1, .int v)], []) (f :: fs) (sh, I, L, R) := by
  intro m
  induction m with
  | zero =>
    intro k hk
    obtain rfl : k = n := by omega
    refine crun_ok hdd 2 (C := ((4, 5, [(2, .int (nI k)), (3, .int (nI k)), (0, .ref q), (1, .int v)], []), f :: fs, (sh, I, L, R))) (C' := ((4, 7, [(2, .int (nI k)), (3, .int (nI k)), (0, .ref q), (1, .int v)], [.int (nI k), .int (nI k)]), f :: fs, (sh, I, L, R))) (k := 0) (n := 0) rfl (Nat.zero_le _) (Nat.zero_le _) ?_
    refine XF.brT hdd (c := .ge) (x := nI k) (y := nI k) (bcT (a := (nI k).toInt) (b := (nI k).toInt) rfl rfl (Int.le_refl _)) rfl ?_
    obtain ⟨j1, p1, l1, s1⟩ := f
    exact cstep_ok (k := 0) (n := 0) rfl hdd (Nat.zero_le _) (Nat.zero_le _) K
  | succ m ih =>
    intro k hk
    refine crun_ok hdd 2 (C := ((4, 5, [(2, .int (nI k)), (3, .int (nI n)), (0, .ref q), (1, .int v)], []), f :: fs, (sh, I, L, R))) (C' := ((4, 7, [(2, .int (nI k)), (3, .int (nI n)), (0, .ref q), (1, .int v)], [.int (nI n), .int (nI k)]), f :: fs, (sh, I, L, R))) (k := 0) (n := 0) rfl (Nat.zero_le _) (Nat.zero_le _) ?_
    refine XF.brF hdd (c := .ge) (x := nI k) (y := nI n) (bcF (a := (k : Int)) (b := (n : Int)) (nI_toInt (by omega)) (nI_toInt hn) (by show ¬ (n : Int) ≤ (k : Int); omega)) rfl ?_
    refine crun_ok hdd 3 (C := ((4, 10, [(2, .int (nI k)), (3, .int (nI n)), (0, .ref q), (1, .int v)], []), f :: fs, (sh, I, L, R))) (C' := ((4, 13, [(2, .int (nI k)), (3, .int (nI n)), (0, .ref q), (1, .int v)], [.int v, .int (nI k), .ref q]), f :: fs, (sh, I, L, R))) (k := 0) (n := 0) rfl (Nat.zero_le _) (Nat.zero_le _) ?_
    refine XF.iast hdd (M := mr_4) rfl rfl hsh (inR_nI (by omega) hn) ?_
    rw [nI_clamp (by omega), up2_same (hI k (by omega))]
    refine crun_ok hdd 2 (C := ((4, 14, [(2, .int (nI k)), (3, .int (nI n)), (0, .ref q), (1, .int v)], []), f :: fs, (sh, I, L, R))) (C' := ((4, 5, [(2, .int (nI k + 1)), (3, .int (nI n)), (0, .ref q), (1, .int v)], []), f :: fs, (sh, I, L, R))) (k := 0) (n := 0) rfl (Nat.zero_le _) (Nat.zero_le _) ?_
    rw [← nI_succ]
    exact ih (k + 1) (by omega)
set_option maxRecDepth 100000 in
set_option maxHeartbeats 4000000 in
/-- Arrays.fill(a, v), where v lies there already -/
theorem XF_fill {X : mX} {dd mc ms : Nat} {Q : Option Value → mW → Prop} (hdd : 41 ≤ dd) {q n : Nat} {v : Int32} {sh : List mE} {I : Nat → Nat → Int32} {L : Nat → Nat → Int64} {R : Nat → Nat → Option Nat} (hsh : sh[q]? = some (.inl (.int, n))) (hn : n < 2 ^ 31) (h0 : 0 < n) (hI : ∀ j, j < n → I q j = v) {f : mFr} {fs : List mFr} (K : XF X dd mc ms Q f fs (sh, I, L, R)) : XF X dd mc ms Q (4, 0, [(0, .ref q), (1, .int v)], []) (f :: fs) (sh, I, L, R) := by
  refine crun_ok hdd 3 (C := ((4, 0, [(0, .ref q), (1, .int v)], []), f :: fs, (sh, I, L, R))) (C' := ((4, 3, [(2, .int 0), (0, .ref q), (1, .int v)], [.ref q]), f :: fs, (sh, I, L, R))) (k := 0) (n := 0) rfl (Nat.zero_le _) (Nat.zero_le _) ?_
  refine XF.alen hdd (M := mr_4) rfl rfl hsh ?_
  refine crun_ok hdd 3 (C := ((4, 4, [(2, .int 0), (0, .ref q), (1, .int v)], [.int (nI n)]), f :: fs, (sh, I, L, R))) (C' := ((4, 7, [(3, .int (nI n)), (2, .int 0), (0, .ref q), (1, .int v)], [.int (nI n), .int 0]), f :: fs, (sh, I, L, R))) (k := 0) (n := 0) rfl (Nat.zero_le _) (Nat.zero_le _) ?_
  refine XF.brF hdd (c := .ge) (x := 0) (y := nI n) (bcF (a := 0) (b := (n : Int)) (by decide) (nI_toInt hn) (by show ¬ (n : Int) ≤ 0; omega)) rfl ?_
  refine crun_ok hdd 3 (C := ((4, 10, [(3, .int (nI n)), (2, .int 0), (0, .ref q), (1, .int v)], []), f :: fs, (sh, I, L, R))) (C' := ((4, 13, [(3, .int (nI n)), (2, .int 0), (0, .ref q), (1, .int v)], [.int v, .int 0, .ref q]), f :: fs, (sh, I, L, R))) (k := 0) (n := 0) rfl (Nat.zero_le _) (Nat.zero_le _) ?_
  refine XF.iast hdd (M := mr_4) rfl rfl hsh (inR_nI (k := 0) h0 hn) ?_
  show XF X dd mc ms Q (4, 13 + 1, [(3, .int (nI n)), (2, .int 0), (0, .ref q), (1, .int v)], []) (f :: fs) (sh, up2 I q 0 v, L, R)
  rw [up2_same (hI 0 h0)]
  refine crun_ok hdd 2 (C := ((4, 14, [(3, .int (nI n)), (2, .int 0), (0, .ref q), (1, .int v)], []), f :: fs, (sh, I, L, R))) (C' := ((4, 5, [(2, .int (nI 1)), (3, .int (nI n)), (0, .ref q), (1, .int v)], []), f :: fs, (sh, I, L, R))) (k := 0) (n := 0) rfl (Nat.zero_le _) (Nat.zero_le _) ?_
  exact fill_loop hdd hsh hn hI K (n - 1) 1 (by omega)
/-- an answer goes to the frame below -/
theorem XF.retV {X : mX} {dd mc ms : Nat} {Q : Option Value → mW → Prop} {j pc jf pf : Nat} {ls lf : mL} {v : Value} {sf : List Value} {fs : List mFr} {w : mW} {M : mMt} {pc0 len a b h : Nat} {u : Int} {ins : Instr} (hM : mt j = some M) (he : mcode j pc = some (pc0, ins, len, a, b, u, h)) (hr : rtb M ins (some v) = true) (K : XF X dd mc ms Q (jf, pf, lf, v :: sf) fs w) : XF X dd mc ms Q (j, pc, ls, [v]) ((jf, pf, lf, sf) :: fs) w := by
  unfold XF
  intro hf M' hM'
  cases hM.symm.trans hM'
  exact XW.ret (r := some v) (rtb_ok hM he hr) ⟨hf, K⟩
