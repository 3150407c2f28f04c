/-! ===== files of the model: the place in longs, as one step from 73 to 117 or 134 ===== -/
theorem lgc_lt {x y : Int64} : (lg_cmp x y < 0) ↔ x.toInt < y.toInt := by
  unfold lg_cmp
  split
  · next h =>
    have h := Int64.lt_iff_toInt_lt.mp h
    exact ⟨fun q => absurd q (by decide), fun q => by omega⟩
  · next h =>
    have h : ¬ y.toInt < x.toInt := fun q => h (Int64.lt_iff_toInt_lt.mpr q)
    split
    · next e => exact ⟨fun q => absurd q (by decide), fun q => by rw [e] at q; omega⟩
    · next e =>
      have e : ¬ x.toInt = y.toInt := fun q => e (Int64.toInt_inj.mp q)
      exact ⟨fun _ => by omega, fun _ => by decide⟩
theorem al0 {l : mL} {x : Nat} (h : lkp l 0 = some (.ref x)) : psh (.aload_n 0) l = some (.ref x) := by
  show (match lkp l 0 with
    | some (Value.ref x) => some (Value.ref x)
    | some (Value.retAddr x) => some (Value.retAddr x)
    | _ => none) = some (Value.ref x)
  rw [h]
theorem il2 {l : mL} {x : Int32} (h : lkp l 2 = some (.int x)) : psh (.iload_n 2) l = some (.int x) := by
  show (match lkp l 2 with
    | some (Value.int x) => some (Value.int x)
    | _ => none) = some (Value.int x)
  rw [h]
theorem ll6 {l : mL} {x : Int64} (h : lkp l 6 = some (.long x)) : psh (.lload 6) l = some (.long x) := by
  show (match lkp l 6 with
    | some (Value.long x) => some (Value.long x)
    | _ => none) = some (Value.long x)
  rw [h]
theorem fl_ld {w : mW} {q c k z : Nat} {r : List Value} (h0 : w.1[q]? = some (.inr c)) (h1 : w.2.2.2 q k = some z) (hk : k < (flds c).length) (ht : tk (ftyOf (flds c) k) = 2) : ldf w c k (.ref q :: r) = some (.ref z :: r) := by
  unfold ldf
  dsimp only
  rw [h0]
  dsimp only
  rw [if_pos ⟨rfl, hk⟩, ht]
  show (some (rfO (w.2.2.2 q k))).map (fun v => v :: r) = _
  rw [h1]
  rfl
theorem lkp_hd {i : Nat} {v : Value} {l : mL} : lkp (sto2 l i v) i = some v := by
  unfold sto2
  rw [lkp_cons, if_pos (by simp)]
theorem fl_sum {i t : Int32} (h0 : 0 ≤ t.toInt) (h1 : t.toInt ≤ 1000) : (i.toInt64 + (3 * t).toInt64).toInt = i.toInt + 3 * t.toInt := by
  have e3 : (3 * t).toInt = 3 * t.toInt := by
    rw [Int32.toInt_mul]
    have e : (3 : Int32).toInt = 3 := rfl
    rw [e, bm32 (by unfold lo32; omega) (by unfold hi32; omega)]
  have hb := i32b i
  unfold lo32 hi32 at hb
  rw [Int64.toInt_add, Int32.toInt_toInt64, Int32.toInt_toInt64, e3]
  exact Int.bmod_eq_of_le (by omega) (by omega)
theorem XF.fl {dd : Nat} {Q : Option Value → mW → Prop} {l : mL} {s : List Value} {fs : List mFr} {w : mW} {i t sf : Int32} {qh qs : Nat} (h3 : lkp l 3 = some (.int i)) (h5 : lkp l 5 = some (.int t)) (ht0 : 0 ≤ t.toInt) (ht1 : t.toInt ≤ 1000)
    (g0 : lkp (sto2 l 6 (.long (i.toInt64 + (3 * t).toInt64))) 0 = some (.ref 94)) (g2 : lkp (sto2 l 6 (.long (i.toInt64 + (3 * t).toInt64))) 2 = some (.int sf))
    (w0 : w.1[94]? = some (.inr 12)) (r1 : w.2.2.2 94 107 = some qh) (r2 : w.2.2.2 94 108 = some qs) (w1 : w.1[qh]? = some (.inl (.int, 8))) (w2 : w.1[qs]? = some (.inl (.int, 8))) (hsf : inR sf 8 = true)
    (K1 : XF none dd 0 0 Q (270, 117, sto2 l 6 (.long (i.toInt64 + (3 * t).toInt64)), s) fs w)
    (K2 : ∀ v : Int32, 0 ≤ v.toInt → v.toInt + 3 ≤ (w.2.1 qs sf.toNatClampNeg).toInt → XF none dd 0 0 Q (270, 134, sto2 l 6 (.long (i.toInt64 + (3 * t).toInt64)), .int v :: .int (90 * sf) :: s) fs w) : XF none dd 0 0 Q (270, 73, l, s) fs w := by
  have eX := fl_sum (i := i) ht0 ht1
  refine XF.fam (pc := 73) (pc' := 74) (ls' := l) (st' := .int i :: s) (w' := w) (M := mr_270) rfl (show mcode 270 73 = some (73, .iload_n 3, 1, 0, 0, 0, _) from rfl) (Or.inl ⟨.int i, il3 h3, rfl⟩) ?_
  refine XF.fam (pc := 74) (pc' := 75) (ls' := l) (st' := .long i.toInt64 :: s) (w' := w) (M := mr_270) rfl (show mcode 270 74 = some (74, .i2l, 1, 0, 0, 0, _) from rfl) (Or.inr (Or.inr (Or.inr (Or.inr (Or.inr (Or.inl ⟨_, rfl, rfl⟩)))))) ?_
  refine XF.fam (pc := 75) (pc' := 76) (ls' := l) (st' := .int 3 :: .long i.toInt64 :: s) (w' := w) (M := mr_270) rfl (show mcode 270 75 = some (75, .iconst 3, 1, 0, 0, 0, _) from rfl) (Or.inl ⟨.int 3, rfl, rfl⟩) ?_
  refine XF.fam (pc := 76) (pc' := 78) (ls' := l) (st' := .int t :: .int 3 :: .long i.toInt64 :: s) (w' := w) (M := mr_270) rfl (show mcode 270 76 = some (76, .iload 5, 2, 0, 0, 0, _) from rfl) (Or.inl ⟨.int t, by simp [psh, h5], rfl⟩) ?_
  refine XF.fam (pc := 78) (pc' := 79) (ls' := l) (st' := .int (3 * t) :: .long i.toInt64 :: s) (w' := w) (M := mr_270) rfl (show mcode 270 78 = some (78, .imul, 1, 0, 0, 0, _) from rfl) (Or.inr (Or.inr (Or.inr (Or.inr (Or.inr (Or.inl ⟨_, rfl, rfl⟩)))))) ?_
  refine XF.fam (pc := 79) (pc' := 80) (ls' := l) (st' := .long (3 * t).toInt64 :: .long i.toInt64 :: s) (w' := w) (M := mr_270) rfl (show mcode 270 79 = some (79, .i2l, 1, 0, 0, 0, _) from rfl) (Or.inr (Or.inr (Or.inr (Or.inr (Or.inr (Or.inl ⟨_, rfl, rfl⟩)))))) ?_
  refine XF.fam (pc := 80) (pc' := 81) (ls' := l) (st' := .long (i.toInt64 + (3 * t).toInt64) :: s) (w' := w) (M := mr_270) rfl (show mcode 270 80 = some (80, .ladd, 1, 0, 0, 0, _) from rfl) (Or.inr (Or.inr (Or.inr (Or.inr (Or.inr (Or.inl ⟨_, rfl, rfl⟩)))))) ?_
  refine XF.fam (pc := 81) (pc' := 83) (ls' := (sto2 l 6 (.long (i.toInt64 + (3 * t).toInt64)))) (st' := s) (w' := w) (M := mr_270) rfl (show mcode 270 81 = some (81, .lstore 6, 2, 0, 0, 0, _) from rfl) (Or.inr (Or.inr (Or.inr (Or.inr (Or.inr (Or.inr (Or.inl ⟨_, s, _, rfl, rfl, rfl⟩))))))) ?_
  refine XF.fam (pc := 83) (pc' := 84) (ls' := (sto2 l 6 (.long (i.toInt64 + (3 * t).toInt64)))) (st' := .ref 94 :: s) (w' := w) (M := mr_270) rfl (show mcode 270 83 = some (83, .aload_n 0, 1, 0, 0, 0, _) from rfl) (Or.inl ⟨.ref 94, al0 g0, rfl⟩) ?_
  refine XF.fam (pc := 84) (pc' := 87) (ls' := (sto2 l 6 (.long (i.toInt64 + (3 * t).toInt64)))) (st' := .ref qh :: s) (w' := w) (M := mr_270) rfl (show mcode 270 84 = some (84, .getfield 238, 3, 12, 107, 0, _) from rfl) (Or.inr (Or.inr (Or.inr (Or.inr (Or.inr (Or.inr (Or.inr (Or.inl ⟨_, _, rfl, fl_ld w0 r1 (by decide) (by decide), rfl⟩)))))))) ?_
  refine XF.fam (pc := 87) (pc' := 88) (ls' := (sto2 l 6 (.long (i.toInt64 + (3 * t).toInt64)))) (st' := .int sf :: .ref qh :: s) (w' := w) (M := mr_270) rfl (show mcode 270 87 = some (87, .iload_n 2, 1, 0, 0, 0, _) from rfl) (Or.inl ⟨.int sf, il2 g2, rfl⟩) ?_
  refine XF.fam (pc := 88) (pc' := 89) (ls' := (sto2 l 6 (.long (i.toInt64 + (3 * t).toInt64)))) (st' := .int (w.2.1 qh sf.toNatClampNeg) :: s) (w' := w) (M := mr_270) rfl (show mcode 270 88 = some (88, .iaload, 1, 0, 0, 0, _) from rfl) (Or.inr (Or.inr (Or.inl ⟨_, by simp [lda, w1, aok, hsf], rfl⟩))) ?_
  refine XF.fam (pc := 89) (pc' := 90) (ls' := (sto2 l 6 (.long (i.toInt64 + (3 * t).toInt64)))) (st' := .int (-1) :: .int (w.2.1 qh sf.toNatClampNeg) :: s) (w' := w) (M := mr_270) rfl (show mcode 270 89 = some (89, .iconst (-1), 1, 0, 0, 0, _) from rfl) (Or.inl ⟨.int (-1), rfl, rfl⟩) ?_
  by_cases c1 : bcmp .eq (w.2.1 qh sf.toNatClampNeg) (-1) = true
  · refine XF.fam (pc := 90) (pc' := 117) (ls' := (sto2 l 6 (.long (i.toInt64 + (3 * t).toInt64)))) (st' := s) (w' := w) (M := mr_270) rfl (show mcode 270 90 = some (90, .if_icmp .eq 27, 3, 117, 0, 0, _) from rfl) (Or.inr (Or.inl ⟨117, s, by simp [brn, c1], rfl⟩)) K1
  refine XF.fam (pc := 90) (pc' := 93) (ls' := (sto2 l 6 (.long (i.toInt64 + (3 * t).toInt64)))) (st' := s) (w' := w) (M := mr_270) rfl (show mcode 270 90 = some (90, .if_icmp .eq 27, 3, 117, 0, 0, _) from rfl) (Or.inr (Or.inl ⟨93, s, by simp [brn, c1], rfl⟩)) ?_
  refine XF.fam (pc := 93) (pc' := 95) (ls' := (sto2 l 6 (.long (i.toInt64 + (3 * t).toInt64)))) (st' := .long (i.toInt64 + (3 * t).toInt64) :: s) (w' := w) (M := mr_270) rfl (show mcode 270 93 = some (93, .lload 6, 2, 0, 0, 0, _) from rfl) (Or.inl ⟨.long (i.toInt64 + (3 * t).toInt64), ll6 lkp_hd, rfl⟩) ?_
  refine XF.fam (pc := 95) (pc' := 96) (ls' := (sto2 l 6 (.long (i.toInt64 + (3 * t).toInt64)))) (st' := .long 0 :: .long (i.toInt64 + (3 * t).toInt64) :: s) (w' := w) (M := mr_270) rfl (show mcode 270 95 = some (95, .lconst 0, 1, 0, 0, 0, _) from rfl) (Or.inl ⟨.long 0, rfl, rfl⟩) ?_
  refine XF.fam (pc := 96) (pc' := 97) (ls' := (sto2 l 6 (.long (i.toInt64 + (3 * t).toInt64)))) (st' := .int (lg_cmp (i.toInt64 + (3 * t).toInt64) 0) :: s) (w' := w) (M := mr_270) rfl (show mcode 270 96 = some (96, .lcmp, 1, 0, 0, 0, _) from rfl) (Or.inr (Or.inr (Or.inr (Or.inr (Or.inr (Or.inl ⟨_, rfl, rfl⟩)))))) ?_
  by_cases c2 : bcmp .lt (lg_cmp (i.toInt64 + (3 * t).toInt64) 0) 0 = true
  · refine XF.fam (pc := 97) (pc' := 117) (ls' := (sto2 l 6 (.long (i.toInt64 + (3 * t).toInt64)))) (st' := s) (w' := w) (M := mr_270) rfl (show mcode 270 97 = some (97, .ifCond .lt 20, 3, 117, 0, 0, _) from rfl) (Or.inr (Or.inl ⟨117, s, by simp [brn, c2], rfl⟩)) K1
  refine XF.fam (pc := 97) (pc' := 100) (ls' := (sto2 l 6 (.long (i.toInt64 + (3 * t).toInt64)))) (st' := s) (w' := w) (M := mr_270) rfl (show mcode 270 97 = some (97, .ifCond .lt 20, 3, 117, 0, 0, _) from rfl) (Or.inr (Or.inl ⟨100, s, by simp [brn, c2], rfl⟩)) ?_
  refine XF.fam (pc := 100) (pc' := 102) (ls' := (sto2 l 6 (.long (i.toInt64 + (3 * t).toInt64)))) (st' := .long (i.toInt64 + (3 * t).toInt64) :: s) (w' := w) (M := mr_270) rfl (show mcode 270 100 = some (100, .lload 6, 2, 0, 0, 0, _) from rfl) (Or.inl ⟨.long (i.toInt64 + (3 * t).toInt64), ll6 lkp_hd, rfl⟩) ?_
  refine XF.fam (pc := 102) (pc' := 105) (ls' := (sto2 l 6 (.long (i.toInt64 + (3 * t).toInt64)))) (st' := .long 2 :: .long (i.toInt64 + (3 * t).toInt64) :: s) (w' := w) (M := mr_270) rfl (show mcode 270 102 = some (102, .ldc2_w 336, 3, 0, 0, 2, _) from rfl) (Or.inr (Or.inr (Or.inr (Or.inr (Or.inl ⟨.long 2, rfl, rfl⟩))))) ?_
  refine XF.fam (pc := 105) (pc' := 106) (ls' := (sto2 l 6 (.long (i.toInt64 + (3 * t).toInt64)))) (st' := .long ((i.toInt64 + (3 * t).toInt64) + 2) :: s) (w' := w) (M := mr_270) rfl (show mcode 270 105 = some (105, .ladd, 1, 0, 0, 0, _) from rfl) (Or.inr (Or.inr (Or.inr (Or.inr (Or.inr (Or.inl ⟨_, rfl, rfl⟩)))))) ?_
  refine XF.fam (pc := 106) (pc' := 107) (ls' := (sto2 l 6 (.long (i.toInt64 + (3 * t).toInt64)))) (st' := .ref 94 :: .long ((i.toInt64 + (3 * t).toInt64) + 2) :: s) (w' := w) (M := mr_270) rfl (show mcode 270 106 = some (106, .aload_n 0, 1, 0, 0, 0, _) from rfl) (Or.inl ⟨.ref 94, al0 g0, rfl⟩) ?_
  refine XF.fam (pc := 107) (pc' := 110) (ls' := (sto2 l 6 (.long (i.toInt64 + (3 * t).toInt64)))) (st' := .ref qs :: .long ((i.toInt64 + (3 * t).toInt64) + 2) :: s) (w' := w) (M := mr_270) rfl (show mcode 270 107 = some (107, .getfield 241, 3, 12, 108, 0, _) from rfl) (Or.inr (Or.inr (Or.inr (Or.inr (Or.inr (Or.inr (Or.inr (Or.inl ⟨_, _, rfl, fl_ld w0 r2 (by decide) (by decide), rfl⟩)))))))) ?_
  refine XF.fam (pc := 110) (pc' := 111) (ls' := (sto2 l 6 (.long (i.toInt64 + (3 * t).toInt64)))) (st' := .int sf :: .ref qs :: .long ((i.toInt64 + (3 * t).toInt64) + 2) :: s) (w' := w) (M := mr_270) rfl (show mcode 270 110 = some (110, .iload_n 2, 1, 0, 0, 0, _) from rfl) (Or.inl ⟨.int sf, il2 g2, rfl⟩) ?_
  refine XF.fam (pc := 111) (pc' := 112) (ls' := (sto2 l 6 (.long (i.toInt64 + (3 * t).toInt64)))) (st' := .int (w.2.1 qs sf.toNatClampNeg) :: .long ((i.toInt64 + (3 * t).toInt64) + 2) :: s) (w' := w) (M := mr_270) rfl (show mcode 270 111 = some (111, .iaload, 1, 0, 0, 0, _) from rfl) (Or.inr (Or.inr (Or.inl ⟨_, by simp [lda, w2, aok, hsf], rfl⟩))) ?_
  refine XF.fam (pc := 112) (pc' := 113) (ls' := (sto2 l 6 (.long (i.toInt64 + (3 * t).toInt64)))) (st' := .long (w.2.1 qs sf.toNatClampNeg).toInt64 :: .long ((i.toInt64 + (3 * t).toInt64) + 2) :: s) (w' := w) (M := mr_270) rfl (show mcode 270 112 = some (112, .i2l, 1, 0, 0, 0, _) from rfl) (Or.inr (Or.inr (Or.inr (Or.inr (Or.inr (Or.inl ⟨_, rfl, rfl⟩)))))) ?_
  refine XF.fam (pc := 113) (pc' := 114) (ls' := (sto2 l 6 (.long (i.toInt64 + (3 * t).toInt64)))) (st' := .int (lg_cmp ((i.toInt64 + (3 * t).toInt64) + 2) (w.2.1 qs sf.toNatClampNeg).toInt64) :: s) (w' := w) (M := mr_270) rfl (show mcode 270 113 = some (113, .lcmp, 1, 0, 0, 0, _) from rfl) (Or.inr (Or.inr (Or.inr (Or.inr (Or.inr (Or.inl ⟨_, rfl, rfl⟩)))))) ?_
  by_cases c3 : bcmp .lt (lg_cmp ((i.toInt64 + (3 * t).toInt64) + 2) (w.2.1 qs sf.toNatClampNeg).toInt64) 0 = true
  · refine XF.fam (pc := 114) (pc' := 127) (ls' := (sto2 l 6 (.long (i.toInt64 + (3 * t).toInt64)))) (st' := s) (w' := w) (M := mr_270) rfl (show mcode 270 114 = some (114, .ifCond .lt 13, 3, 127, 0, 0, _) from rfl) (Or.inr (Or.inl ⟨127, s, by simp [brn, c3], rfl⟩)) ?_
    refine XF.fam (pc := 127) (pc' := 129) (ls' := (sto2 l 6 (.long (i.toInt64 + (3 * t).toInt64)))) (st' := .int 90 :: s) (w' := w) (M := mr_270) rfl (show mcode 270 127 = some (127, .bipush 90, 2, 0, 0, 0, _) from rfl) (Or.inl ⟨.int 90, rfl, rfl⟩) ?_
    refine XF.fam (pc := 129) (pc' := 130) (ls' := (sto2 l 6 (.long (i.toInt64 + (3 * t).toInt64)))) (st' := .int sf :: .int 90 :: s) (w' := w) (M := mr_270) rfl (show mcode 270 129 = some (129, .iload_n 2, 1, 0, 0, 0, _) from rfl) (Or.inl ⟨.int sf, il2 g2, rfl⟩) ?_
    refine XF.fam (pc := 130) (pc' := 131) (ls' := (sto2 l 6 (.long (i.toInt64 + (3 * t).toInt64)))) (st' := .int (90 * sf) :: s) (w' := w) (M := mr_270) rfl (show mcode 270 130 = some (130, .imul, 1, 0, 0, 0, _) from rfl) (Or.inr (Or.inr (Or.inr (Or.inr (Or.inr (Or.inl ⟨_, rfl, rfl⟩)))))) ?_
    refine XF.fam (pc := 131) (pc' := 133) (ls' := (sto2 l 6 (.long (i.toInt64 + (3 * t).toInt64)))) (st' := .long (i.toInt64 + (3 * t).toInt64) :: .int (90 * sf) :: s) (w' := w) (M := mr_270) rfl (show mcode 270 131 = some (131, .lload 6, 2, 0, 0, 0, _) from rfl) (Or.inl ⟨.long (i.toInt64 + (3 * t).toInt64), ll6 lkp_hd, rfl⟩) ?_
    refine XF.fam (pc := 133) (pc' := 134) (ls' := (sto2 l 6 (.long (i.toInt64 + (3 * t).toInt64)))) (st' := .int (i.toInt64 + (3 * t).toInt64).toInt32 :: .int (90 * sf) :: s) (w' := w) (M := mr_270) rfl (show mcode 270 133 = some (133, .l2i, 1, 0, 0, 0, _) from rfl) (Or.inr (Or.inr (Or.inr (Or.inr (Or.inr (Or.inl ⟨_, rfl, rfl⟩)))))) ?_
    have a2 : ¬ lg_cmp (i.toInt64 + (3 * t).toInt64) 0 < 0 := fun q => c2 (by simp only [bcmp, q, decide_true])
    have a3 : lg_cmp ((i.toInt64 + (3 * t).toInt64) + 2) (w.2.1 qs sf.toNatClampNeg).toInt64 < 0 := by simpa only [bcmp, decide_eq_true_eq] using c3
    rw [lgc_lt] at a2 a3
    have hz : (0 : Int64).toInt = 0 := rfl
    have hb := i32b i
    have hbs := i32b (w.2.1 qs sf.toNatClampNeg)
    unfold lo32 hi32 at hb hbs
    have h2 : ((i.toInt64 + (3 * t).toInt64) + 2).toInt = i.toInt + 3 * t.toInt + 2 := by
      rw [Int64.toInt_add, eX]
      have e : (2 : Int64).toInt = 2 := rfl
      rw [e]
      exact Int.bmod_eq_of_le (by omega) (by omega)
    rw [h2, Int32.toInt_toInt64] at a3
    rw [eX, hz] at a2
    have hv : ((i.toInt64 + (3 * t).toInt64).toInt32).toInt = i.toInt + 3 * t.toInt := by
      rw [Int64.toInt_toInt32, eX]
      exact Int.bmod_eq_of_le (by omega) (by omega)
    exact K2 _ (by omega) (by omega)
  · refine XF.fam (pc := 114) (pc' := 117) (ls' := (sto2 l 6 (.long (i.toInt64 + (3 * t).toInt64)))) (st' := s) (w' := w) (M := mr_270) rfl (show mcode 270 114 = some (114, .ifCond .lt 13, 3, 127, 0, 0, _) from rfl) (Or.inr (Or.inl ⟨117, s, by simp [brn, c3], rfl⟩)) K1
theorem inR_lt2 {i : Int32} {n : Nat} (h : inR i n = true) : 0 ≤ i.toInt ∧ i.toInt < n := by
  unfold inR at h
  rw [Bool.and_eq_true, decide_eq_true_eq, decide_eq_true_eq, Int32.lt_iff_toInt_lt] at h
  have hc : i.toNatClampNeg = i.toInt.toNat := rfl
  have hz : (0 : Int32).toInt = 0 := rfl
  rw [hz] at h
  rw [hc] at h
  omega
/-- the two tables as they must stand -/
def flT (T : aT) : Option (Nat × Nat) := match T.1 94, T.2.1 94 107, T.2.1 94 108 with
  | some (.inr 12), some qh, some qs => match T.1 qh, T.1 qs, T.2.2.1 qs with
    | some (.inl (.int, 8)), some (.inl (.int, 8)), .inl r => bif ile r.2 90 then some (qh, qs) else none
    | _, _, _ => none
  | _, _, _ => none
theorem flT_ok {T : aT} {E : mW → Prop} {w : mW} {qh qs : Nat} (hw : wOK T E w) (h : flT T = some (qh, qs)) : w.1[94]? = some (.inr 12) ∧ w.2.2.2 94 107 = some qh ∧ w.2.2.2 94 108 = some qs ∧ w.1[qh]? = some (.inl (.int, 8)) ∧ w.1[qs]? = some (.inl (.int, 8)) ∧ ∀ k, (w.2.1 qs k).toInt ≤ 90 := by
  unfold flT at h
  split at h
  · next e1 e2 e3 =>
    split at h
    · next r e4 e5 e6 =>
      obtain ⟨g, h⟩ := bif_o h
      cases h
      refine ⟨hw.1 _ _ e1, hw.2.1 _ _ _ e2, hw.2.1 _ _ _ e3, hw.1 _ _ e4, hw.1 _ _ e5, fun k => ?_⟩
      have hr := hw.2.2.1 qs k
      unfold rg at hr
      rw [e6] at hr
      have := ile_iff.mp g
      exact Int.le_trans hr.2 this
    · cases h
  · cases h
def spF (T : aT) (A : aS) : Option (List aS) := match A with
  | ((j, pc, ls, st), fs, B, P, F, G) => bif Nat.beq j 270 && Nat.beq pc 73 then (match flT T, alk ls 3, alk ls 5, alk (ast2 ls 6 (.inr none)) 0, alk (ast2 ls 6 (.inr none)) 2 with
    | some _, some (.inl _), some (.inl x5), some (.inr (some 94)), some (.inl x2) => bif prv B F x5 && (prv B F (nsb (nK 1000) x5) && inx B F x2 8) then some [((270, 117, ast2 ls 6 (.inr none), st), fs, B, P, F, G), ((270, 134, ast2 ls 6 (.inr none), .inl (nV B.1) :: .inl (nsc 90 x2) :: st), fs, (B.1 + 1, (B.1, 0, 87) :: B.2), P, F, G)] else none
    | _, _, _, _, _ => none) else none
theorem spF_ok {T : aT} {E : mW → Prop} {md : aM} {Z : aZ} {av : List Value} {I0 : Nat → Nat → Int32} {dd : Nat} {A : aS} {As : List aS} (h : spF T A = some As) : Snd T E md Z av I0 dd A As := by
  obtain ⟨⟨j, pc, ls, st⟩, fs, B, P, F, G⟩ := A
  intro rho C hS K
  obtain ⟨⟨j', pc', l, s⟩, gs, w⟩ := C
  obtain ⟨⟨e1, e2, hl, hs⟩, hfs, hB, hP, hF, hG, hw, hI⟩ := hS
  dsimp only at e1 e2 hl hs hfs hB hP hF hG hw hI K ⊢
  subst e1 e2
  unfold spF at h
  dsimp only at h
  obtain ⟨hb, h9⟩ := bif_o h
  clear h
  rw [Bool.and_eq_true] at hb
  have ej := Nat.eq_of_beq_eq_true hb.1
  have ep := Nat.eq_of_beq_eq_true hb.2
  subst ej ep
  split at h9
  · next qq x3 x5 x2 hq q3 q5 q0 q2 =>
    obtain ⟨g, h8⟩ := bif_o h9
    cases h8
    simp only [Bool.and_eq_true] at g
    obtain ⟨qh, qs⟩ := qq
    obtain ⟨w0, r1, r2, w1, w2, hsz⟩ := flT_ok hw hq
    obtain ⟨v3, k3, n3, i, rfl, f3⟩ := hl 3 _ (alk_mem q3)
    obtain ⟨v5, k5, n5, t, rfl, f5⟩ := hl 5 _ (alk_mem q5)
    have p1 := prv_ok hB hF n5 g.1
    have p2 := prv_ok hB hF (nb_sb nb_K n5) g.2.1
    rw [fvl_sb, fvl_K] at p2
    have hl6 : lOK B.1 rho (ast2 ls 6 (.inr none)) (sto2 l 6 (.long (i.toInt64 + (3 * t).toInt64))) := lOK_st2 (a := .inr none) hl ⟨_, rfl⟩
    obtain ⟨v0, k0, e0⟩ := hl6 0 _ (alk_mem q0)
    obtain rfl : v0 = .ref 94 := e0
    obtain ⟨v2, k2, n2, sf, rfl, f2⟩ := hl6 2 _ (alk_mem q2)
    obtain ⟨u1, u2, u3⟩ := inx_ok hB hF n2 f2 g.2.2
    refine XF.fl k3 k5 (by omega) (by omega) k0 k2 w0 r1 r2 w1 w2 u1 ?_ (fun v hv0 hv1 => ?_)
    · exact K _ List.mem_cons_self rho ((270, 117, _, s), gs, w) (agr.refl _ _) ⟨⟨rfl, rfl, hl6, hs⟩, hfs, hB, hP, hF, hG, hw, hI⟩
    · have hv2 := hsz sf.toNatClampNeg
      have ha : agr B.1 rho (fun x => if x = B.1 then v.toInt else rho x) := fun x hx => by
        show (if x = B.1 then v.toInt else rho x) = rho x
        rw [if_neg (by omega)]
      have hbv := i32b v
      have hB' : bOK (B.1 + 1, (B.1, 0, 87) :: B.2) (fun x => if x = B.1 then v.toInt else rho x) := by
        refine ⟨fun x hx => ?_, fun e he => ?_⟩
        · dsimp only
          split
          · exact hbv
          · exact hB.1 x (by dsimp only at hx; omega)
        · rcases List.mem_cons.mp he with rfl | he
          · dsimp only
            rw [if_pos rfl]
            omega
          · obtain ⟨b1, b2, b3⟩ := hB.2 e he
            dsimp only
            rw [if_neg (by omega)]
            exact ⟨by omega, b2, b3⟩
      have hle : B.1 ≤ B.1 + 1 := by omega
      refine K _ (List.mem_cons_of_mem _ (List.mem_singleton_self _)) (fun x => if x = B.1 then v.toInt else rho x) ((270, 134, _, .int v :: .int (90 * sf) :: s), gs, w) ha ⟨⟨rfl, rfl, hl6.mono hle ha, ⟨nb_V (by dsimp only; omega), v, rfl, ?_⟩, ⟨nb_sc (n2.mono hle), 90 * sf, rfl, ?_⟩, hs.mono hle ha⟩, hfs.mono hle ha, hB', hP.mono hle ha, hF.mono hle ha, hG.mono hle ha, hw, hI⟩
      · rw [fvl_V]
        show v.toInt = if B.1 = B.1 then v.toInt else _
        rw [if_pos rfl]
      · have h90 : (90 * sf).toInt = 90 * sf.toInt := by
          rw [Int32.toInt_mul]
          have e : (90 : Int32).toInt = 90 := rfl
          have := inR_lt2 u1
          rw [e, bm32 (by unfold lo32; omega) (by unfold hi32; omega)]
        rw [h90, fvl_sc, f2, fvl_agr ha n2]
  · cases h9
