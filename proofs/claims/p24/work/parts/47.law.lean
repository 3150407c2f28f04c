/-! ===== the law: each call by its contract; its loop (wip/genlaw.py) ===== -/
theorem XW.wid {j : Nat} {M : mMt} {X : mX} {d mc ms mc' ms' : Nat} {Q : Option Value → mW → Prop} {S : mS} (h1 : mc ≤ mc') (h2 : ms ≤ ms') (K : XW j M X d mc ms Q S) : XW j M X d mc' ms' Q S := by
  intro D base xa p l e R s m args below meth c Z H locs cells slots lsA cA hC hfr hlo hce hsl hH hL hl hret
  exact K D base xa p l e R s m args below meth c Z H locs cells slots lsA cA hC hfr hlo (by omega) (by omega) hH hL hl (fun r w2 H2 locs2 ls2 cA2 c2 s2 pc2 q1 q2 q3 q4 q5 q6 => hret r w2 H2 locs2 ls2 cA2 c2 s2 pc2 q1 q2 q3 (by omega) (by omega) q6)
def RL (w : mW) : Prop := w.2.1 1 1 = w.2.1 94 2 ∧ w.2.1 1 0 = w.2.1 94 1 ∧ w.2.1 41 0 = w.2.1 94 34 ∧ (∀ k, w.2.1 42 k = w.2.1 122 k) ∧ w.2.1 47 3 = w.2.1 94 35 ∧ (∀ k, w.2.1 48 k = w.2.1 123 k) ∧ (∀ k, w.2.1 49 k = w.2.1 124 k) ∧ RLf w
def IV (w : mW) : Prop := fresh w ∧ (∃ sh R, wOK (mkT vV []) (wE sh R) w) ∧ RL w
theorem iv_cell {w : mW} {sh : List mE} {R : Nat → Nat → Option Nat} (hw : wOK (mkT vV []) (wE sh R) w) : w.1[0]? = some (.inr 0) ∧ w.1[94]? = some (.inr 12) := ⟨hw.1 0 _ rfl, hw.1 94 _ rfl⟩
theorem any32 (v : Int32) : ∃ i : Int32, Value.int v = .int i ∧ (-2147483648) ≤ i.toInt ∧ i.toInt ≤ 2147483647 := by
  have h := i32b v
  unfold lo32 hi32 at h
  exact ⟨v, rfl, h.1, h.2⟩
theorem in32r {v : Int32} {a b : Int} (h1 : a ≤ v.toInt) (h2 : v.toInt ≤ b) : ∃ i : Int32, Value.int v = .int i ∧ a ≤ i.toInt ∧ i.toInt ≤ b := ⟨v, rfl, h1, h2⟩
theorem pre_any {av : List Value} {I : Nat → Nat → Int32} {c : Int} (hc : 2147483648 ≤ c) {l : List (Nat × Nat)} : qsV av I I none (l.map (fun p => (c, [((1, p.1, p.2), 1)]))) := by
  intro q hq
  obtain ⟨p, -, rfl⟩ := List.mem_map.mp hq
  have h := i32b (I p.1 p.2)
  unfold lo32 hi32 at h
  show 0 ≤ (0 + 1 * (I p.1 p.2).toInt) + c
  omega
theorem lw_ld {Ln : Nat} {xs : Nat → Int32} {d mc ms : Nat} {Q : Option Value → mW → Prop} {w : mW} {i : Int32} {pc : Nat} {n : Int} {st : List Value} (e1 : mcode 371 pc = some (pc, .aload_n 0, 1, 0, 0, 0, 0)) (e2 : mcode 371 (pc + 1) = some (pc + 1, .iload_n 3, 1, 0, 0, 0, 0)) (e3 : mcode 371 (pc + 1 + 1) = some (pc + 1 + 1, .iconst n, 1, 0, 0, 0, 0)) (e4 : mcode 371 (pc + 1 + 1 + 1) = some (pc + 1 + 1 + 1, .iadd, 1, 0, 0, 0, 0)) (e5 : mcode 371 (pc + 1 + 1 + 1 + 1) = some (pc + 1 + 1 + 1 + 1, .iaload, 1, 0, 0, 0, 0)) (hn : 0 ≤ n ∧ n ≤ 5) (hi0 : 0 ≤ i.toInt) (hi1 : i.toInt + 6 ≤ Ln) (hL : Ln ≤ 3072)
    (K : XW 371 mr_371 (some (Ln, xs)) d mc ms Q (pc + 1 + 1 + 1 + 1 + 1, [(3, .int i), (2, .ref 94), (1, .ref 0), (0, .retAddr 0)], .int (xs (i + Int32.ofInt n).toNatClampNeg) :: st, w)) : XW 371 mr_371 (some (Ln, xs)) d mc ms Q (pc, [(3, .int i), (2, .ref 94), (1, .ref 0), (0, .retAddr 0)], st, w) := by
  have en : (Int32.ofInt n).toInt = n := Int32.toInt_ofInt_of_le (by omega) (by omega)
  have hin : inR (i + Int32.ofInt n) Ln = true := by
    have e : (i + Int32.ofInt n).toInt = i.toInt + n := by
      rw [Int32.toInt_add, en]
      exact bm32 (by unfold lo32; omega) (by unfold hi32; omega)
    exact inR_of (by omega) (by omega)
  refine XW.fam (S' := (pc + 1, [(3, .int i), (2, .ref 94), (1, .ref 0), (0, .retAddr 0)], .retAddr 0 :: st, w)) (M := mr_371) rfl e1 (Or.inl ⟨.retAddr 0, rfl, rfl⟩) ?_
  refine XW.fam (S' := (pc + 1 + 1, [(3, .int i), (2, .ref 94), (1, .ref 0), (0, .retAddr 0)], .int i :: .retAddr 0 :: st, w)) (M := mr_371) rfl e2 (Or.inl ⟨.int i, rfl, rfl⟩) ?_
  refine XW.fam (S' := (pc + 1 + 1 + 1, [(3, .int i), (2, .ref 94), (1, .ref 0), (0, .retAddr 0)], .int (Int32.ofInt n) :: .int i :: .retAddr 0 :: st, w)) (M := mr_371) rfl e3 (Or.inl ⟨.int (Int32.ofInt n), rfl, rfl⟩) ?_
  refine XW.fam (S' := (pc + 1 + 1 + 1 + 1, [(3, .int i), (2, .ref 94), (1, .ref 0), (0, .retAddr 0)], .int (i + Int32.ofInt n) :: .retAddr 0 :: st, w)) (M := mr_371) rfl e4 (Or.inr (Or.inr (Or.inr (Or.inr (Or.inr (Or.inl ⟨_, rfl, rfl⟩)))))) ?_
  refine XW.fam (S' := (pc + 1 + 1 + 1 + 1 + 1, [(3, .int i), (2, .ref 94), (1, .ref 0), (0, .retAddr 0)], .int (xs (i + Int32.ofInt n).toNatClampNeg) :: st, w)) (M := mr_371) rfl e5 (Or.inr (Or.inr (Or.inl ⟨_, by simp [lda, hin], rfl⟩))) ?_
  exact K
theorem lw_lop {Ln : Nat} {xs : Nat → Int32} {d mc ms : Nat} {Q : Option Value → mW → Prop} {w : mW} {ls : mL} {pc pc0 h : Nat} {ins : Instr} {st r : List Value} (he : mcode 371 pc = some (pc0, ins, 1, 0, 0, 0, h)) (hs : (ins = .lshl ∧ ∃ (a : Int64) (b : Int32) (r' : List Value), r' = r ∧ st = .int b :: .long a :: r') ∨ (ins = .land ∧ ∃ (a b : Int64) (r' : List Value), r' = r ∧ st = .long b :: .long a :: r') ∨ (ins = .lor ∧ ∃ (a b : Int64) (r' : List Value), r' = r ∧ st = .long b :: .long a :: r')) (K : ∀ y : Int64, XW 371 mr_371 (some (Ln, xs)) d mc ms Q (pc + 1, ls, .long y :: r, w)) : XW 371 mr_371 (some (Ln, xs)) d mc ms Q (pc, ls, st, w) := by
  rcases hs with ⟨rfl, a, b, r', rfl, rfl⟩ | ⟨rfl, a, b, r', rfl, rfl⟩ | ⟨rfl, a, b, r', rfl, rfl⟩
  · exact XW.fam (S' := (pc + 1, ls, _, w)) (M := mr_371) rfl he (Or.inr (Or.inr (Or.inr (Or.inr (Or.inr (Or.inl ⟨_, rfl, rfl⟩)))))) (K _)
  · exact XW.fam (S' := (pc + 1, ls, _, w)) (M := mr_371) rfl he (Or.inr (Or.inr (Or.inr (Or.inr (Or.inr (Or.inl ⟨_, rfl, rfl⟩)))))) (K _)
  · exact XW.fam (S' := (pc + 1, ls, _, w)) (M := mr_371) rfl he (Or.inr (Or.inr (Or.inr (Or.inr (Or.inr (Or.inl ⟨_, rfl, rfl⟩)))))) (K _)
set_option maxRecDepth 100000 in
theorem case_0 {Ln : Nat} {xs : Nat → Int32} {mc ms : Nat} {w : mW} {i : Int32} (hi0 : 0 ≤ i.toInt) (hi1 : i.toInt + 6 ≤ Ln) (hL : Ln ≤ 3072) (hV : IV w) (K : ∀ w', IV w' → XW 371 mr_371 (some (Ln, xs)) 91 mc ms Qone (2217, [(3, .int i), (2, .ref 94), (1, .ref 0), (0, .retAddr 0)], [], w')) : XW 371 mr_371 (some (Ln, xs)) 91 (mc + 1) (ms + 240) Qone (276, [(3, .int i), (2, .ref 94), (1, .ref 0), (0, .retAddr 0)], [], w) := by
  obtain ⟨hf, ⟨sh, R, hw⟩, hv⟩ := hV
  refine XW.fam (S' := (277, [(3, .int i), (2, .ref 94), (1, .ref 0), (0, .retAddr 0)], [.ref 0], w)) (M := mr_371) rfl (show mcode 371 276 = some (276, .aload_n 1, 1, 0, 0, 0, _) from rfl) (Or.inl ⟨.ref 0, rfl, rfl⟩) ?_
  refine lw_ld (pc := 277) (n := 1) rfl rfl rfl rfl rfl (by decide) hi0 hi1 hL ?_
  refine lw_ld (pc := 282) (n := 2) rfl rfl rfl rfl rfl (by decide) hi0 hi1 hL ?_
  refine XW.call (d' := 2) (mc' := 0) (ms' := 0) (av := [.ref 0, .int (xs (i + Int32.ofInt 1).toNatClampNeg), .int (xs (i + Int32.ofInt 2).toNatClampNeg)]) (rest := []) (M := mr_371) (Ma := mr_13) rfl (show mcode 371 287 = some (287, .invokevirtual 13, 3, 13, 0, 0, _) from rfl) rfl (by decide) (by decide) ⟨rfl, 0, _, rfl, (iv_cell hw).1⟩ rfl rfl (show (0 : Nat) ≤ 8 by decide) (tc_placeC8 (d := 0) hw hf) (by decide) (by omega) (by omega) (fun r1 w1 hQ1 => ?_)
  obtain ⟨x1, e1⟩ := Qpl_int hQ1.1
  subst e1
  obtain ⟨sh1, R1, hw1⟩ := hQ1.1.2.1
  refine XW.fam (S' := (291, [(3, .int i), (2, .ref 94), (1, .ref 0), (0, .retAddr 0)], [], w1)) (M := mr_371) rfl (show mcode 371 290 = some (290, .pop, 1, 0, 0, 0, _) from rfl) (Or.inr (Or.inr (Or.inr (Or.inr (Or.inr (Or.inl ⟨_, rfl, rfl⟩)))))) ?_
  refine XW.fam (S' := (292, [(3, .int i), (2, .ref 94), (1, .ref 0), (0, .retAddr 0)], [.ref 94], w1)) (M := mr_371) rfl (show mcode 371 291 = some (291, .aload_n 2, 1, 0, 0, 0, _) from rfl) (Or.inl ⟨.ref 94, rfl, rfl⟩) ?_
  refine lw_ld (pc := 292) (n := 1) rfl rfl rfl rfl rfl (by decide) hi0 hi1 hL ?_
  refine lw_ld (pc := 297) (n := 2) rfl rfl rfl rfl rfl (by decide) hi0 hi1 hL ?_
  refine XW.call (d' := 2) (mc' := 0) (ms' := 0) (av := [.ref 94, .int (xs (i + Int32.ofInt 1).toNatClampNeg), .int (xs (i + Int32.ofInt 2).toNatClampNeg)]) (rest := []) (M := mr_371) (Ma := mr_235) rfl (show mcode 371 302 = some (302, .invokevirtual 17, 3, 235, 0, 0, _) from rfl) rfl (by decide) (by decide) ⟨rfl, 94, _, rfl, (iv_cell hw1).2⟩ rfl rfl (show (0 : Nat) ≤ 8 by decide) (tc_placeM8 (d := 0) hw1 hQ1.1.1) (by decide) (by omega) (by omega) (fun r2 w2 hQ2 => ?_)
  obtain ⟨x2, e2⟩ := Qpl_int hQ2.1
  subst e2
  obtain ⟨sh2, R2, hw2⟩ := hQ2.1.2.1
  have hl := pl_cnt hv.1 hQ1.1 hQ2.1
  have c1_1 : w1.2.1 1 0 = w.2.1 1 0 := Qpl_keep hQ1.1 1 0 rfl
  have c2_1 : w2.2.1 1 0 = w1.2.1 1 0 := Qpl_keep hQ2.1 1 0 rfl
  have m1_1 : w1.2.1 94 1 = w.2.1 94 1 := Qpl_keep hQ1.1 94 1 rfl
  have m2_1 : w2.2.1 94 1 = w1.2.1 94 1 := Qpl_keep hQ2.1 94 1 rfl
  have c1_2 : w1.2.1 41 0 = w.2.1 41 0 := Qpl_keep hQ1.1 41 0 rfl
  have c2_2 : w2.2.1 41 0 = w1.2.1 41 0 := Qpl_keep hQ2.1 41 0 rfl
  have m1_2 : w1.2.1 94 34 = w.2.1 94 34 := Qpl_keep hQ1.1 94 34 rfl
  have m2_2 : w2.2.1 94 34 = w1.2.1 94 34 := Qpl_keep hQ2.1 94 34 rfl
  have c1_3 : ∀ k, w1.2.1 42 k = w.2.1 42 k := fun k => Qpl_keep hQ1.1 42 k rfl
  have c2_3 : ∀ k, w2.2.1 42 k = w1.2.1 42 k := fun k => Qpl_keep hQ2.1 42 k rfl
  have m1_3 : ∀ k, w1.2.1 122 k = w.2.1 122 k := fun k => Qpl_keep hQ1.1 122 k rfl
  have m2_3 : ∀ k, w2.2.1 122 k = w1.2.1 122 k := fun k => Qpl_keep hQ2.1 122 k rfl
  have c1_4 : w1.2.1 47 3 = w.2.1 47 3 := Qpl_keep hQ1.1 47 3 rfl
  have c2_4 : w2.2.1 47 3 = w1.2.1 47 3 := Qpl_keep hQ2.1 47 3 rfl
  have m1_4 : w1.2.1 94 35 = w.2.1 94 35 := Qpl_keep hQ1.1 94 35 rfl
  have m2_4 : w2.2.1 94 35 = w1.2.1 94 35 := Qpl_keep hQ2.1 94 35 rfl
  have c1_5 : ∀ k, w1.2.1 48 k = w.2.1 48 k := fun k => Qpl_keep hQ1.1 48 k rfl
  have c2_5 : ∀ k, w2.2.1 48 k = w1.2.1 48 k := fun k => Qpl_keep hQ2.1 48 k rfl
  have m1_5 : ∀ k, w1.2.1 123 k = w.2.1 123 k := fun k => Qpl_keep hQ1.1 123 k rfl
  have m2_5 : ∀ k, w2.2.1 123 k = w1.2.1 123 k := fun k => Qpl_keep hQ2.1 123 k rfl
  have c1_6 : ∀ k, w1.2.1 49 k = w.2.1 49 k := fun k => Qpl_keep hQ1.1 49 k rfl
  have c2_6 : ∀ k, w2.2.1 49 k = w1.2.1 49 k := fun k => Qpl_keep hQ2.1 49 k rfl
  have m1_6 : ∀ k, w1.2.1 124 k = w.2.1 124 k := fun k => Qpl_keep hQ1.1 124 k rfl
  have m2_6 : ∀ k, w2.2.1 124 k = w1.2.1 124 k := fun k => Qpl_keep hQ2.1 124 k rfl
  have hv2 : RL w2 := ⟨hl.2, (c2_1.trans c1_1).trans (hv.2.1.trans (m1_1.symm.trans m2_1.symm)), (c2_2.trans c1_2).trans (hv.2.2.1.trans (m1_2.symm.trans m2_2.symm)), fun k => ((c2_3 k).trans (c1_3 k)).trans ((hv.2.2.2.1 k).trans ((m1_3 k).symm.trans (m2_3 k).symm)), (c2_4.trans c1_4).trans (hv.2.2.2.2.1.trans (m1_4.symm.trans m2_4.symm)), fun k => ((c2_5 k).trans (c1_5 k)).trans ((hv.2.2.2.2.2.1 k).trans ((m1_5 k).symm.trans (m2_5 k).symm)), fun k => ((c2_6 k).trans (c1_6 k)).trans ((hv.2.2.2.2.2.2.1 k).trans ((m1_6 k).symm.trans (m2_6 k).symm)), pl_far (hw.2.2.1 1 1) hv.1 hv.2.2.2.2.2.2.2 hQ1 hQ2⟩
  refine XW.fam (S' := (306, [(3, .int i), (2, .ref 94), (1, .ref 0), (0, .retAddr 0)], [], w2)) (M := mr_371) rfl (show mcode 371 305 = some (305, .pop, 1, 0, 0, 0, _) from rfl) (Or.inr (Or.inr (Or.inr (Or.inr (Or.inr (Or.inl ⟨_, rfl, rfl⟩)))))) ?_
  refine XW.fam (S' := (2217, [(3, .int i), (2, .ref 94), (1, .ref 0), (0, .retAddr 0)], [], w2)) (M := mr_371) rfl (show mcode 371 306 = some (306, .goto 1911, 3, 2217, 0, 0, _) from rfl) (Or.inr (Or.inl ⟨2217, [], rfl, rfl⟩)) ?_
  exact XW.wid (mc := mc) (ms := ms) (by omega) (by omega) (K w2 ⟨hQ2.1.1, ⟨_, _, hw2⟩, hv2⟩)
set_option maxRecDepth 100000 in
theorem case_1 {Ln : Nat} {xs : Nat → Int32} {mc ms : Nat} {w : mW} {i : Int32} (hi0 : 0 ≤ i.toInt) (hi1 : i.toInt + 6 ≤ Ln) (hL : Ln ≤ 3072) (hV : IV w) (K : ∀ w', IV w' → XW 371 mr_371 (some (Ln, xs)) 91 mc ms Qone (2217, [(3, .int i), (2, .ref 94), (1, .ref 0), (0, .retAddr 0)], [], w')) : XW 371 mr_371 (some (Ln, xs)) 91 (mc + 1) (ms + 240) Qone (309, [(3, .int i), (2, .ref 94), (1, .ref 0), (0, .retAddr 0)], [], w) := by
  obtain ⟨hf, ⟨sh, R, hw⟩, hv⟩ := hV
  refine XW.fam (S' := (310, [(3, .int i), (2, .ref 94), (1, .ref 0), (0, .retAddr 0)], [.ref 0], w)) (M := mr_371) rfl (show mcode 371 309 = some (309, .aload_n 1, 1, 0, 0, 0, _) from rfl) (Or.inl ⟨.ref 0, rfl, rfl⟩) ?_
  refine lw_ld (pc := 310) (n := 1) rfl rfl rfl rfl rfl (by decide) hi0 hi1 hL ?_
  refine lw_ld (pc := 315) (n := 2) rfl rfl rfl rfl rfl (by decide) hi0 hi1 hL ?_
  refine lw_ld (pc := 320) (n := 3) rfl rfl rfl rfl rfl (by decide) hi0 hi1 hL ?_
  refine lw_ld (pc := 325) (n := 4) rfl rfl rfl rfl rfl (by decide) hi0 hi1 hL ?_
  refine XW.call (d' := 3) (mc' := 0) (ms' := 0) (av := [.ref 0, .int (xs (i + Int32.ofInt 1).toNatClampNeg), .int (xs (i + Int32.ofInt 2).toNatClampNeg), .int (xs (i + Int32.ofInt 3).toNatClampNeg), .int (xs (i + Int32.ofInt 4).toNatClampNeg)]) (rest := []) (M := mr_371) (Ma := mr_17) rfl (show mcode 371 330 = some (330, .invokevirtual 18, 3, 17, 0, 0, _) from rfl) rfl (by decide) (by decide) ⟨rfl, 0, _, rfl, (iv_cell hw).1⟩ rfl rfl (show (0 : Nat) ≤ 8 by decide) (tc_railC8 (d := 0) hw hf hv.2.2.2.2.2.2.2.2.1.1) (by decide) (by omega) (by omega) (fun r1 w1 hQ1 => ?_)
  obtain ⟨x1, e1⟩ := Qrail_int hQ1.1
  subst e1
  obtain ⟨sh1, R1, hw1⟩ := hQ1.1.2.1
  refine XW.fam (S' := (334, [(3, .int i), (2, .ref 94), (1, .ref 0), (0, .retAddr 0)], [], w1)) (M := mr_371) rfl (show mcode 371 333 = some (333, .pop, 1, 0, 0, 0, _) from rfl) (Or.inr (Or.inr (Or.inr (Or.inr (Or.inr (Or.inl ⟨_, rfl, rfl⟩)))))) ?_
  refine XW.fam (S' := (335, [(3, .int i), (2, .ref 94), (1, .ref 0), (0, .retAddr 0)], [.ref 94], w1)) (M := mr_371) rfl (show mcode 371 334 = some (334, .aload_n 2, 1, 0, 0, 0, _) from rfl) (Or.inl ⟨.ref 94, rfl, rfl⟩) ?_
  refine lw_ld (pc := 335) (n := 1) rfl rfl rfl rfl rfl (by decide) hi0 hi1 hL ?_
  refine lw_ld (pc := 340) (n := 2) rfl rfl rfl rfl rfl (by decide) hi0 hi1 hL ?_
  refine lw_ld (pc := 345) (n := 3) rfl rfl rfl rfl rfl (by decide) hi0 hi1 hL ?_
  refine lw_ld (pc := 350) (n := 4) rfl rfl rfl rfl rfl (by decide) hi0 hi1 hL ?_
  refine XW.call (d' := 2) (mc' := 0) (ms' := 0) (av := [.ref 94, .int (xs (i + Int32.ofInt 1).toNatClampNeg), .int (xs (i + Int32.ofInt 2).toNatClampNeg), .int (xs (i + Int32.ofInt 3).toNatClampNeg), .int (xs (i + Int32.ofInt 4).toNatClampNeg)]) (rest := []) (M := mr_371) (Ma := mr_239) rfl (show mcode 371 355 = some (355, .invokevirtual 22, 3, 239, 0, 0, _) from rfl) rfl (by decide) (by decide) ⟨rfl, 94, _, rfl, (iv_cell hw1).2⟩ rfl rfl (show (0 : Nat) ≤ 8 by decide) (tc_railM8 (d := 0) hw1 hQ1.1.1) (by decide) (by omega) (by omega) (fun r2 w2 hQ2 => ?_)
  obtain ⟨x2, e2⟩ := Qrail_int hQ2.1
  subst e2
  obtain ⟨sh2, R2, hw2⟩ := hQ2.1.2.1
  have ec : w1.2.1 94 2 = w.2.1 1 1 := (Qrail_keep hQ1.1 94 2 rfl).trans hv.1.symm
  rw [ec] at hQ2
  have hl := rail_far (hw.2.2.1 1 1) (fun k => hw.2.2.1 98 k) hv.1 hv.2.2.2.2.2.2.2 hQ1 hQ2
  have c1_0 : w1.2.1 1 1 = w.2.1 1 1 := Qrail_keep hQ1.1 1 1 rfl
  have c2_0 : w2.2.1 1 1 = w1.2.1 1 1 := Qrail_keep hQ2.1 1 1 rfl
  have m1_0 : w1.2.1 94 2 = w.2.1 94 2 := Qrail_keep hQ1.1 94 2 rfl
  have m2_0 : w2.2.1 94 2 = w1.2.1 94 2 := Qrail_keep hQ2.1 94 2 rfl
  have c1_1 : w1.2.1 1 0 = w.2.1 1 0 := Qrail_keep hQ1.1 1 0 rfl
  have c2_1 : w2.2.1 1 0 = w1.2.1 1 0 := Qrail_keep hQ2.1 1 0 rfl
  have m1_1 : w1.2.1 94 1 = w.2.1 94 1 := Qrail_keep hQ1.1 94 1 rfl
  have m2_1 : w2.2.1 94 1 = w1.2.1 94 1 := Qrail_keep hQ2.1 94 1 rfl
  have c1_2 : w1.2.1 41 0 = w.2.1 41 0 := Qrail_keep hQ1.1 41 0 rfl
  have c2_2 : w2.2.1 41 0 = w1.2.1 41 0 := Qrail_keep hQ2.1 41 0 rfl
  have m1_2 : w1.2.1 94 34 = w.2.1 94 34 := Qrail_keep hQ1.1 94 34 rfl
  have m2_2 : w2.2.1 94 34 = w1.2.1 94 34 := Qrail_keep hQ2.1 94 34 rfl
  have c1_3 : ∀ k, w1.2.1 42 k = w.2.1 42 k := fun k => Qrail_keep hQ1.1 42 k rfl
  have c2_3 : ∀ k, w2.2.1 42 k = w1.2.1 42 k := fun k => Qrail_keep hQ2.1 42 k rfl
  have m1_3 : ∀ k, w1.2.1 122 k = w.2.1 122 k := fun k => Qrail_keep hQ1.1 122 k rfl
  have m2_3 : ∀ k, w2.2.1 122 k = w1.2.1 122 k := fun k => Qrail_keep hQ2.1 122 k rfl
  have c1_4 : w1.2.1 47 3 = w.2.1 47 3 := Qrail_keep hQ1.1 47 3 rfl
  have c2_4 : w2.2.1 47 3 = w1.2.1 47 3 := Qrail_keep hQ2.1 47 3 rfl
  have m1_4 : w1.2.1 94 35 = w.2.1 94 35 := Qrail_keep hQ1.1 94 35 rfl
  have m2_4 : w2.2.1 94 35 = w1.2.1 94 35 := Qrail_keep hQ2.1 94 35 rfl
  have c1_5 : ∀ k, w1.2.1 48 k = w.2.1 48 k := fun k => Qrail_keep hQ1.1 48 k rfl
  have c2_5 : ∀ k, w2.2.1 48 k = w1.2.1 48 k := fun k => Qrail_keep hQ2.1 48 k rfl
  have m1_5 : ∀ k, w1.2.1 123 k = w.2.1 123 k := fun k => Qrail_keep hQ1.1 123 k rfl
  have m2_5 : ∀ k, w2.2.1 123 k = w1.2.1 123 k := fun k => Qrail_keep hQ2.1 123 k rfl
  have c1_6 : ∀ k, w1.2.1 49 k = w.2.1 49 k := fun k => Qrail_keep hQ1.1 49 k rfl
  have c2_6 : ∀ k, w2.2.1 49 k = w1.2.1 49 k := fun k => Qrail_keep hQ2.1 49 k rfl
  have m1_6 : ∀ k, w1.2.1 124 k = w.2.1 124 k := fun k => Qrail_keep hQ1.1 124 k rfl
  have m2_6 : ∀ k, w2.2.1 124 k = w1.2.1 124 k := fun k => Qrail_keep hQ2.1 124 k rfl
  have hv2 : RL w2 := ⟨(c2_0.trans c1_0).trans (hv.1.trans (m1_0.symm.trans m2_0.symm)), (c2_1.trans c1_1).trans (hv.2.1.trans (m1_1.symm.trans m2_1.symm)), (c2_2.trans c1_2).trans (hv.2.2.1.trans (m1_2.symm.trans m2_2.symm)), fun k => ((c2_3 k).trans (c1_3 k)).trans ((hv.2.2.2.1 k).trans ((m1_3 k).symm.trans (m2_3 k).symm)), (c2_4.trans c1_4).trans (hv.2.2.2.2.1.trans (m1_4.symm.trans m2_4.symm)), fun k => ((c2_5 k).trans (c1_5 k)).trans ((hv.2.2.2.2.2.1 k).trans ((m1_5 k).symm.trans (m2_5 k).symm)), fun k => ((c2_6 k).trans (c1_6 k)).trans ((hv.2.2.2.2.2.2.1 k).trans ((m1_6 k).symm.trans (m2_6 k).symm)), hl.2⟩
  refine XW.fam (S' := (359, [(3, .int i), (2, .ref 94), (1, .ref 0), (0, .retAddr 0)], [], w2)) (M := mr_371) rfl (show mcode 371 358 = some (358, .pop, 1, 0, 0, 0, _) from rfl) (Or.inr (Or.inr (Or.inr (Or.inr (Or.inr (Or.inl ⟨_, rfl, rfl⟩)))))) ?_
  refine XW.fam (S' := (2217, [(3, .int i), (2, .ref 94), (1, .ref 0), (0, .retAddr 0)], [], w2)) (M := mr_371) rfl (show mcode 371 359 = some (359, .goto 1858, 3, 2217, 0, 0, _) from rfl) (Or.inr (Or.inl ⟨2217, [], rfl, rfl⟩)) ?_
  exact XW.wid (mc := mc) (ms := ms) (by omega) (by omega) (K w2 ⟨hQ2.1.1, ⟨_, _, hw2⟩, hv2⟩)
set_option maxRecDepth 100000 in
theorem case_2 {Ln : Nat} {xs : Nat → Int32} {mc ms : Nat} {w : mW} {i : Int32} (hi0 : 0 ≤ i.toInt) (hi1 : i.toInt + 6 ≤ Ln) (hL : Ln ≤ 3072) (hV : IV w) (K : ∀ w', IV w' → XW 371 mr_371 (some (Ln, xs)) 91 mc ms Qone (2217, [(3, .int i), (2, .ref 94), (1, .ref 0), (0, .retAddr 0)], [], w')) : XW 371 mr_371 (some (Ln, xs)) 91 (mc + 1) (ms + 240) Qone (362, [(3, .int i), (2, .ref 94), (1, .ref 0), (0, .retAddr 0)], [], w) := by
  obtain ⟨hf, ⟨sh, R, hw⟩, hv⟩ := hV
  refine XW.fam (S' := (363, [(3, .int i), (2, .ref 94), (1, .ref 0), (0, .retAddr 0)], [.ref 0], w)) (M := mr_371) rfl (show mcode 371 362 = some (362, .aload_n 1, 1, 0, 0, 0, _) from rfl) (Or.inl ⟨.ref 0, rfl, rfl⟩) ?_
  refine lw_ld (pc := 363) (n := 1) rfl rfl rfl rfl rfl (by decide) hi0 hi1 hL ?_
  refine lw_ld (pc := 368) (n := 2) rfl rfl rfl rfl rfl (by decide) hi0 hi1 hL ?_
  refine XW.call (d' := 41) (mc' := 0) (ms' := 0) (av := [.ref 0, .int (xs (i + Int32.ofInt 1).toNatClampNeg), .int (xs (i + Int32.ofInt 2).toNatClampNeg)]) (rest := []) (M := mr_371) (Ma := mr_24) rfl (show mcode 371 373 = some (373, .invokevirtual 23, 3, 24, 0, 0, _) from rfl) rfl (by decide) (by decide) ⟨rfl, 0, _, rfl, (iv_cell hw).1⟩ rfl rfl (show _ ≤ 8 by decide) (kk_5 [.ref 0, .int (xs (i + Int32.ofInt 1).toNatClampNeg), .int (xs (i + Int32.ofInt 2).toNatClampNeg)] w hw ⟨rfl, any32 _, any32 _, trivial⟩ (fun q hq => by cases hq) hf) (by decide) (by omega) (by omega) (fun r1 w1 hQ1 => ?_)
  obtain ⟨hf1, hw1, hI1, ⟨x1, rfl, -, -⟩, -⟩ := hQ1
  have c1_0 : w1.2.1 1 1 = w.2.1 1 1 := hI1 1 1 rfl
  have m1_0 : w1.2.1 94 2 = w.2.1 94 2 := hI1 94 2 rfl
  have c1_1 : w1.2.1 1 0 = w.2.1 1 0 := hI1 1 0 rfl
  have m1_1 : w1.2.1 94 1 = w.2.1 94 1 := hI1 94 1 rfl
  have c1_2 : w1.2.1 41 0 = w.2.1 41 0 := hI1 41 0 rfl
  have m1_2 : w1.2.1 94 34 = w.2.1 94 34 := hI1 94 34 rfl
  have c1_3 : ∀ k, w1.2.1 42 k = w.2.1 42 k := fun k => hI1 42 k rfl
  have m1_3 : ∀ k, w1.2.1 122 k = w.2.1 122 k := fun k => hI1 122 k rfl
  have c1_4 : w1.2.1 47 3 = w.2.1 47 3 := hI1 47 3 rfl
  have m1_4 : w1.2.1 94 35 = w.2.1 94 35 := hI1 94 35 rfl
  have c1_5 : ∀ k, w1.2.1 48 k = w.2.1 48 k := fun k => hI1 48 k rfl
  have m1_5 : ∀ k, w1.2.1 123 k = w.2.1 123 k := fun k => hI1 123 k rfl
  have c1_6 : ∀ k, w1.2.1 49 k = w.2.1 49 k := fun k => hI1 49 k rfl
  have m1_6 : ∀ k, w1.2.1 124 k = w.2.1 124 k := fun k => hI1 124 k rfl
  have y1_7_0 : ∀ k, w1.2.1 5 k = w.2.1 5 k := fun k => hI1 5 k rfl
  have y1_7_1 : ∀ k, w1.2.1 98 k = w.2.1 98 k := fun k => hI1 98 k rfl
  have y1_7_2 : ∀ k, w1.2.1 8 k = w.2.1 8 k := fun k => hI1 8 k rfl
  have y1_7_3 : ∀ k, w1.2.1 102 k = w.2.1 102 k := fun k => hI1 102 k rfl
  have y1_7_4 : w1.2.1 1 1 = w.2.1 1 1 := hI1 1 1 rfl
  refine XW.fam (S' := (377, [(3, .int i), (2, .ref 94), (1, .ref 0), (0, .retAddr 0)], [], w1)) (M := mr_371) rfl (show mcode 371 376 = some (376, .pop, 1, 0, 0, 0, _) from rfl) (Or.inr (Or.inr (Or.inr (Or.inr (Or.inr (Or.inl ⟨_, rfl, rfl⟩)))))) ?_
  refine XW.fam (S' := (378, [(3, .int i), (2, .ref 94), (1, .ref 0), (0, .retAddr 0)], [.ref 94], w1)) (M := mr_371) rfl (show mcode 371 377 = some (377, .aload_n 2, 1, 0, 0, 0, _) from rfl) (Or.inl ⟨.ref 94, rfl, rfl⟩) ?_
  refine lw_ld (pc := 378) (n := 1) rfl rfl rfl rfl rfl (by decide) hi0 hi1 hL ?_
  refine lw_ld (pc := 383) (n := 2) rfl rfl rfl rfl rfl (by decide) hi0 hi1 hL ?_
  refine XW.call (d' := 41) (mc' := 0) (ms' := 0) (av := [.ref 94, .int (xs (i + Int32.ofInt 1).toNatClampNeg), .int (xs (i + Int32.ofInt 2).toNatClampNeg)]) (rest := []) (M := mr_371) (Ma := mr_241) rfl (show mcode 371 388 = some (388, .invokevirtual 26, 3, 241, 0, 0, _) from rfl) rfl (by decide) (by decide) ⟨rfl, 94, _, rfl, (iv_cell hw1).2⟩ rfl rfl (show _ ≤ 8 by decide) (kk_231 [.ref 94, .int (xs (i + Int32.ofInt 1).toNatClampNeg), .int (xs (i + Int32.ofInt 2).toNatClampNeg)] w1 hw1 ⟨rfl, any32 _, any32 _, trivial⟩ (fun q hq => by cases hq) hf1) (by decide) (by omega) (by omega) (fun r2 w2 hQ2 => ?_)
  obtain ⟨hf2, hw2, hI2, ⟨x2, rfl, -, -⟩, -⟩ := hQ2
  have c2_0 : w2.2.1 1 1 = w1.2.1 1 1 := hI2 1 1 rfl
  have m2_0 : w2.2.1 94 2 = w1.2.1 94 2 := hI2 94 2 rfl
  have c2_1 : w2.2.1 1 0 = w1.2.1 1 0 := hI2 1 0 rfl
  have m2_1 : w2.2.1 94 1 = w1.2.1 94 1 := hI2 94 1 rfl
  have c2_2 : w2.2.1 41 0 = w1.2.1 41 0 := hI2 41 0 rfl
  have m2_2 : w2.2.1 94 34 = w1.2.1 94 34 := hI2 94 34 rfl
  have c2_3 : ∀ k, w2.2.1 42 k = w1.2.1 42 k := fun k => hI2 42 k rfl
  have m2_3 : ∀ k, w2.2.1 122 k = w1.2.1 122 k := fun k => hI2 122 k rfl
  have c2_4 : w2.2.1 47 3 = w1.2.1 47 3 := hI2 47 3 rfl
  have m2_4 : w2.2.1 94 35 = w1.2.1 94 35 := hI2 94 35 rfl
  have c2_5 : ∀ k, w2.2.1 48 k = w1.2.1 48 k := fun k => hI2 48 k rfl
  have m2_5 : ∀ k, w2.2.1 123 k = w1.2.1 123 k := fun k => hI2 123 k rfl
  have c2_6 : ∀ k, w2.2.1 49 k = w1.2.1 49 k := fun k => hI2 49 k rfl
  have m2_6 : ∀ k, w2.2.1 124 k = w1.2.1 124 k := fun k => hI2 124 k rfl
  have y2_7_0 : ∀ k, w2.2.1 5 k = w1.2.1 5 k := fun k => hI2 5 k rfl
  have y2_7_1 : ∀ k, w2.2.1 98 k = w1.2.1 98 k := fun k => hI2 98 k rfl
  have y2_7_2 : ∀ k, w2.2.1 8 k = w1.2.1 8 k := fun k => hI2 8 k rfl
  have y2_7_3 : ∀ k, w2.2.1 102 k = w1.2.1 102 k := fun k => hI2 102 k rfl
  have y2_7_4 : w2.2.1 1 1 = w1.2.1 1 1 := hI2 1 1 rfl
  refine XW.fam (S' := (392, [(3, .int i), (2, .ref 94), (1, .ref 0), (0, .retAddr 0)], [], w2)) (M := mr_371) rfl (show mcode 371 391 = some (391, .pop, 1, 0, 0, 0, _) from rfl) (Or.inr (Or.inr (Or.inr (Or.inr (Or.inr (Or.inl ⟨_, rfl, rfl⟩)))))) ?_
  refine XW.fam (S' := (2217, [(3, .int i), (2, .ref 94), (1, .ref 0), (0, .retAddr 0)], [], w2)) (M := mr_371) rfl (show mcode 371 392 = some (392, .goto 1825, 3, 2217, 0, 0, _) from rfl) (Or.inr (Or.inl ⟨2217, [], rfl, rfl⟩)) ?_
  exact XW.wid (mc := mc) (ms := ms) (by omega) (by omega) (K w2 ⟨hf2, ⟨_, _, hw2⟩, ⟨(c2_0.trans c1_0).trans (hv.1.trans (m1_0.symm.trans m2_0.symm)), (c2_1.trans c1_1).trans (hv.2.1.trans (m1_1.symm.trans m2_1.symm)), (c2_2.trans c1_2).trans (hv.2.2.1.trans (m1_2.symm.trans m2_2.symm)), fun k => ((c2_3 k).trans (c1_3 k)).trans ((hv.2.2.2.1 k).trans ((m1_3 k).symm.trans (m2_3 k).symm)), (c2_4.trans c1_4).trans (hv.2.2.2.2.1.trans (m1_4.symm.trans m2_4.symm)), fun k => ((c2_5 k).trans (c1_5 k)).trans ((hv.2.2.2.2.2.1 k).trans ((m1_5 k).symm.trans (m2_5 k).symm)), fun k => ((c2_6 k).trans (c1_6 k)).trans ((hv.2.2.2.2.2.2.1 k).trans ((m1_6 k).symm.trans (m2_6 k).symm)), RLf_keep (fun k => (y2_7_0 k).trans (y1_7_0 k)) (fun k => (y2_7_1 k).trans (y1_7_1 k)) (fun k => (y2_7_2 k).trans (y1_7_2 k)) (fun k => (y2_7_3 k).trans (y1_7_3 k)) (y2_7_4.trans y1_7_4) hv.2.2.2.2.2.2.2⟩⟩)
set_option maxRecDepth 100000 in
theorem case_3_0 {Ln : Nat} {xs : Nat → Int32} {mc ms : Nat} {w : mW} {i : Int32} (g1 : (-2147483648) ≤ (xs (i + Int32.ofInt 1).toNatClampNeg).toInt ∧ (xs (i + Int32.ofInt 1).toNatClampNeg).toInt ≤ 0) (hi0 : 0 ≤ i.toInt) (hi1 : i.toInt + 6 ≤ Ln) (hL : Ln ≤ 3072) (hV : IV w) (K : ∀ w', IV w' → XW 371 mr_371 (some (Ln, xs)) 91 mc ms Qone (2217, [(3, .int i), (2, .ref 94), (1, .ref 0), (0, .retAddr 0)], [], w')) : XW 371 mr_371 (some (Ln, xs)) 91 (mc + 1) (ms + 240) Qone (395, [(3, .int i), (2, .ref 94), (1, .ref 0), (0, .retAddr 0)], [], w) := by
  obtain ⟨hf, ⟨sh, R, hw⟩, hv⟩ := hV
  have hvi0 : (w.2.1 1 1).toInt = (w.2.1 94 2).toInt := congrArg Int32.toInt hv.1
  have hvi1 : (w.2.1 1 0).toInt = (w.2.1 94 1).toInt := congrArg Int32.toInt hv.2.1
  have hvi2 : (w.2.1 41 0).toInt = (w.2.1 94 34).toInt := congrArg Int32.toInt hv.2.2.1
  have hvi4 : (w.2.1 47 3).toInt = (w.2.1 94 35).toInt := congrArg Int32.toInt hv.2.2.2.2.1
  refine XW.fam (S' := (396, [(3, .int i), (2, .ref 94), (1, .ref 0), (0, .retAddr 0)], [.ref 0], w)) (M := mr_371) rfl (show mcode 371 395 = some (395, .aload_n 1, 1, 0, 0, 0, _) from rfl) (Or.inl ⟨.ref 0, rfl, rfl⟩) ?_
  refine lw_ld (pc := 396) (n := 1) rfl rfl rfl rfl rfl (by decide) hi0 hi1 hL ?_
  refine XW.call (d' := 41) (mc' := 0) (ms' := 0) (av := [.ref 0, .int (xs (i + Int32.ofInt 1).toNatClampNeg)]) (rest := []) (M := mr_371) (Ma := mr_26) rfl (show mcode 371 401 = some (401, .invokevirtual 27, 3, 26, 0, 0, _) from rfl) rfl (by decide) (by decide) ⟨rfl, 0, _, rfl, (iv_cell hw).1⟩ rfl rfl (show (0 : Nat) ≤ 8 by decide) (kk_445 [.ref 0, .int (xs (i + Int32.ofInt 1).toNatClampNeg)] w hw ⟨rfl, in32r g1.1 g1.2, trivial⟩ (fun q hq => by cases hq) hf) (by decide) (by omega) (by omega) (fun r1 w1 hQ1 => ?_)
  obtain ⟨hf1, hw1, hI1, ⟨x1, rfl, l1, u1⟩, hp1⟩ := hQ1
  have c1_0 : w1.2.1 1 1 = w.2.1 1 1 := hI1 1 1 rfl
  have ci1_0 : (w1.2.1 1 1).toInt = (w.2.1 1 1).toInt := by rw [c1_0]
  have m1_0 : w1.2.1 94 2 = w.2.1 94 2 := hI1 94 2 rfl
  have mi1_0 : (w1.2.1 94 2).toInt = (w.2.1 94 2).toInt := by rw [m1_0]
  have c1_1 : w1.2.1 1 0 = w.2.1 1 0 := hI1 1 0 rfl
  have ci1_1 : (w1.2.1 1 0).toInt = (w.2.1 1 0).toInt := by rw [c1_1]
  have m1_1 : w1.2.1 94 1 = w.2.1 94 1 := hI1 94 1 rfl
  have mi1_1 : (w1.2.1 94 1).toInt = (w.2.1 94 1).toInt := by rw [m1_1]
  have c1_2 : w1.2.1 41 0 = w.2.1 41 0 := hI1 41 0 rfl
  have ci1_2 : (w1.2.1 41 0).toInt = (w.2.1 41 0).toInt := by rw [c1_2]
  have m1_2 : w1.2.1 94 34 = w.2.1 94 34 := hI1 94 34 rfl
  have mi1_2 : (w1.2.1 94 34).toInt = (w.2.1 94 34).toInt := by rw [m1_2]
  have c1_3 : ∀ k, w1.2.1 42 k = w.2.1 42 k := fun k => hI1 42 k rfl
  have m1_3 : ∀ k, w1.2.1 122 k = w.2.1 122 k := fun k => hI1 122 k rfl
  have c1_4 : w1.2.1 47 3 = w.2.1 47 3 := hI1 47 3 rfl
  have ci1_4 : (w1.2.1 47 3).toInt = (w.2.1 47 3).toInt := by rw [c1_4]
  have m1_4 : w1.2.1 94 35 = w.2.1 94 35 := hI1 94 35 rfl
  have mi1_4 : (w1.2.1 94 35).toInt = (w.2.1 94 35).toInt := by rw [m1_4]
  have c1_5 : ∀ k, w1.2.1 48 k = w.2.1 48 k := fun k => hI1 48 k rfl
  have m1_5 : ∀ k, w1.2.1 123 k = w.2.1 123 k := fun k => hI1 123 k rfl
  have c1_6 : ∀ k, w1.2.1 49 k = w.2.1 49 k := fun k => hI1 49 k rfl
  have m1_6 : ∀ k, w1.2.1 124 k = w.2.1 124 k := fun k => hI1 124 k rfl
  have y1_7_0 : ∀ k, w1.2.1 5 k = w.2.1 5 k := fun k => hI1 5 k rfl
  have y1_7_1 : ∀ k, w1.2.1 98 k = w.2.1 98 k := fun k => hI1 98 k rfl
  have y1_7_2 : ∀ k, w1.2.1 8 k = w.2.1 8 k := fun k => hI1 8 k rfl
  have y1_7_3 : ∀ k, w1.2.1 102 k = w.2.1 102 k := fun k => hI1 102 k rfl
  have y1_7_4 : w1.2.1 1 1 = w.2.1 1 1 := hI1 1 1 rfl
  refine XW.fam (S' := (405, [(3, .int i), (2, .ref 94), (1, .ref 0), (0, .retAddr 0)], [], w1)) (M := mr_371) rfl (show mcode 371 404 = some (404, .pop, 1, 0, 0, 0, _) from rfl) (Or.inr (Or.inr (Or.inr (Or.inr (Or.inr (Or.inl ⟨_, rfl, rfl⟩)))))) ?_
  refine XW.fam (S' := (406, [(3, .int i), (2, .ref 94), (1, .ref 0), (0, .retAddr 0)], [.ref 94], w1)) (M := mr_371) rfl (show mcode 371 405 = some (405, .aload_n 2, 1, 0, 0, 0, _) from rfl) (Or.inl ⟨.ref 94, rfl, rfl⟩) ?_
  refine lw_ld (pc := 406) (n := 1) rfl rfl rfl rfl rfl (by decide) hi0 hi1 hL ?_
  refine XW.call (d' := 41) (mc' := 0) (ms' := 0) (av := [.ref 94, .int (xs (i + Int32.ofInt 1).toNatClampNeg)]) (rest := []) (M := mr_371) (Ma := mr_324) rfl (show mcode 371 411 = some (411, .invokevirtual 31, 3, 324, 0, 0, _) from rfl) rfl (by decide) (by decide) ⟨rfl, 94, _, rfl, (iv_cell hw1).2⟩ rfl rfl (show (0 : Nat) ≤ 8 by decide) (kk_449 [.ref 94, .int (xs (i + Int32.ofInt 1).toNatClampNeg)] w1 hw1 ⟨rfl, in32r g1.1 g1.2, trivial⟩ (fun q hq => by cases hq) hf1) (by decide) (by omega) (by omega) (fun r2 w2 hQ2 => ?_)
  obtain ⟨hf2, hw2, hI2, ⟨x2, rfl, l2, u2⟩, hp2⟩ := hQ2
  have c2_0 : w2.2.1 1 1 = w1.2.1 1 1 := hI2 1 1 rfl
  have ci2_0 : (w2.2.1 1 1).toInt = (w1.2.1 1 1).toInt := by rw [c2_0]
  have m2_0 : w2.2.1 94 2 = w1.2.1 94 2 := hI2 94 2 rfl
  have mi2_0 : (w2.2.1 94 2).toInt = (w1.2.1 94 2).toInt := by rw [m2_0]
  have c2_1 : w2.2.1 1 0 = w1.2.1 1 0 := hI2 1 0 rfl
  have ci2_1 : (w2.2.1 1 0).toInt = (w1.2.1 1 0).toInt := by rw [c2_1]
  have m2_1 : w2.2.1 94 1 = w1.2.1 94 1 := hI2 94 1 rfl
  have mi2_1 : (w2.2.1 94 1).toInt = (w1.2.1 94 1).toInt := by rw [m2_1]
  have c2_2 : w2.2.1 41 0 = w1.2.1 41 0 := hI2 41 0 rfl
  have ci2_2 : (w2.2.1 41 0).toInt = (w1.2.1 41 0).toInt := by rw [c2_2]
  have m2_2 : w2.2.1 94 34 = w1.2.1 94 34 := hI2 94 34 rfl
  have mi2_2 : (w2.2.1 94 34).toInt = (w1.2.1 94 34).toInt := by rw [m2_2]
  have c2_3 : ∀ k, w2.2.1 42 k = w1.2.1 42 k := fun k => hI2 42 k rfl
  have m2_3 : ∀ k, w2.2.1 122 k = w1.2.1 122 k := fun k => hI2 122 k rfl
  have c2_4 : w2.2.1 47 3 = w1.2.1 47 3 := hI2 47 3 rfl
  have ci2_4 : (w2.2.1 47 3).toInt = (w1.2.1 47 3).toInt := by rw [c2_4]
  have m2_4 : w2.2.1 94 35 = w1.2.1 94 35 := hI2 94 35 rfl
  have mi2_4 : (w2.2.1 94 35).toInt = (w1.2.1 94 35).toInt := by rw [m2_4]
  have c2_5 : ∀ k, w2.2.1 48 k = w1.2.1 48 k := fun k => hI2 48 k rfl
  have m2_5 : ∀ k, w2.2.1 123 k = w1.2.1 123 k := fun k => hI2 123 k rfl
  have c2_6 : ∀ k, w2.2.1 49 k = w1.2.1 49 k := fun k => hI2 49 k rfl
  have m2_6 : ∀ k, w2.2.1 124 k = w1.2.1 124 k := fun k => hI2 124 k rfl
  have y2_7_0 : ∀ k, w2.2.1 5 k = w1.2.1 5 k := fun k => hI2 5 k rfl
  have y2_7_1 : ∀ k, w2.2.1 98 k = w1.2.1 98 k := fun k => hI2 98 k rfl
  have y2_7_2 : ∀ k, w2.2.1 8 k = w1.2.1 8 k := fun k => hI2 8 k rfl
  have y2_7_3 : ∀ k, w2.2.1 102 k = w1.2.1 102 k := fun k => hI2 102 k rfl
  have y2_7_4 : w2.2.1 1 1 = w1.2.1 1 1 := hI2 1 1 rfl
  refine XW.fam (S' := (415, [(3, .int i), (2, .ref 94), (1, .ref 0), (0, .retAddr 0)], [], w2)) (M := mr_371) rfl (show mcode 371 414 = some (414, .pop, 1, 0, 0, 0, _) from rfl) (Or.inr (Or.inr (Or.inr (Or.inr (Or.inr (Or.inl ⟨_, rfl, rfl⟩)))))) ?_
  have hv2 : RL w2 := ⟨(c2_0.trans c1_0).trans (hv.1.trans (m1_0.symm.trans m2_0.symm)), (c2_1.trans c1_1).trans (hv.2.1.trans (m1_1.symm.trans m2_1.symm)), (c2_2.trans c1_2).trans (hv.2.2.1.trans (m1_2.symm.trans m2_2.symm)), fun k => ((c2_3 k).trans (c1_3 k)).trans ((hv.2.2.2.1 k).trans ((m1_3 k).symm.trans (m2_3 k).symm)), (c2_4.trans c1_4).trans (hv.2.2.2.2.1.trans (m1_4.symm.trans m2_4.symm)), fun k => ((c2_5 k).trans (c1_5 k)).trans ((hv.2.2.2.2.2.1 k).trans ((m1_5 k).symm.trans (m2_5 k).symm)), fun k => ((c2_6 k).trans (c1_6 k)).trans ((hv.2.2.2.2.2.2.1 k).trans ((m1_6 k).symm.trans (m2_6 k).symm)), RLf_keep (fun k => (y2_7_0 k).trans (y1_7_0 k)) (fun k => (y2_7_1 k).trans (y1_7_1 k)) (fun k => (y2_7_2 k).trans (y1_7_2 k)) (fun k => (y2_7_3 k).trans (y1_7_3 k)) (y2_7_4.trans y1_7_4) hv.2.2.2.2.2.2.2⟩
  refine XW.fam (S' := (2217, [(3, .int i), (2, .ref 94), (1, .ref 0), (0, .retAddr 0)], [], w2)) (M := mr_371) rfl (show mcode 371 415 = some (415, .goto 1802, 3, 2217, 0, 0, _) from rfl) (Or.inr (Or.inl ⟨2217, [], rfl, rfl⟩)) ?_
  exact XW.wid (mc := mc) (ms := ms) (by omega) (by omega) (K w2 ⟨hf2, ⟨_, _, hw2⟩, hv2⟩)
set_option maxRecDepth 100000 in
theorem case_3_1 {Ln : Nat} {xs : Nat → Int32} {mc ms : Nat} {w : mW} {i : Int32} (g1 : 61 ≤ (xs (i + Int32.ofInt 1).toNatClampNeg).toInt ∧ (xs (i + Int32.ofInt 1).toNatClampNeg).toInt ≤ 2147483647) (hi0 : 0 ≤ i.toInt) (hi1 : i.toInt + 6 ≤ Ln) (hL : Ln ≤ 3072) (hV : IV w) (K : ∀ w', IV w' → XW 371 mr_371 (some (Ln, xs)) 91 mc ms Qone (2217, [(3, .int i), (2, .ref 94), (1, .ref 0), (0, .retAddr 0)], [], w')) : XW 371 mr_371 (some (Ln, xs)) 91 (mc + 1) (ms + 240) Qone (395, [(3, .int i), (2, .ref 94), (1, .ref 0), (0, .retAddr 0)], [], w) := by
  obtain ⟨hf, ⟨sh, R, hw⟩, hv⟩ := hV
  have hvi0 : (w.2.1 1 1).toInt = (w.2.1 94 2).toInt := congrArg Int32.toInt hv.1
  have hvi1 : (w.2.1 1 0).toInt = (w.2.1 94 1).toInt := congrArg Int32.toInt hv.2.1
  have hvi2 : (w.2.1 41 0).toInt = (w.2.1 94 34).toInt := congrArg Int32.toInt hv.2.2.1
  have hvi4 : (w.2.1 47 3).toInt = (w.2.1 94 35).toInt := congrArg Int32.toInt hv.2.2.2.2.1
  refine XW.fam (S' := (396, [(3, .int i), (2, .ref 94), (1, .ref 0), (0, .retAddr 0)], [.ref 0], w)) (M := mr_371) rfl (show mcode 371 395 = some (395, .aload_n 1, 1, 0, 0, 0, _) from rfl) (Or.inl ⟨.ref 0, rfl, rfl⟩) ?_
  refine lw_ld (pc := 396) (n := 1) rfl rfl rfl rfl rfl (by decide) hi0 hi1 hL ?_
  refine XW.call (d' := 41) (mc' := 0) (ms' := 0) (av := [.ref 0, .int (xs (i + Int32.ofInt 1).toNatClampNeg)]) (rest := []) (M := mr_371) (Ma := mr_26) rfl (show mcode 371 401 = some (401, .invokevirtual 27, 3, 26, 0, 0, _) from rfl) rfl (by decide) (by decide) ⟨rfl, 0, _, rfl, (iv_cell hw).1⟩ rfl rfl (show (0 : Nat) ≤ 8 by decide) (kk_446 [.ref 0, .int (xs (i + Int32.ofInt 1).toNatClampNeg)] w hw ⟨rfl, in32r g1.1 g1.2, trivial⟩ (fun q hq => by cases hq) hf) (by decide) (by omega) (by omega) (fun r1 w1 hQ1 => ?_)
  obtain ⟨hf1, hw1, hI1, ⟨x1, rfl, l1, u1⟩, hp1⟩ := hQ1
  have c1_0 : w1.2.1 1 1 = w.2.1 1 1 := hI1 1 1 rfl
  have ci1_0 : (w1.2.1 1 1).toInt = (w.2.1 1 1).toInt := by rw [c1_0]
  have m1_0 : w1.2.1 94 2 = w.2.1 94 2 := hI1 94 2 rfl
  have mi1_0 : (w1.2.1 94 2).toInt = (w.2.1 94 2).toInt := by rw [m1_0]
  have c1_1 : w1.2.1 1 0 = w.2.1 1 0 := hI1 1 0 rfl
  have ci1_1 : (w1.2.1 1 0).toInt = (w.2.1 1 0).toInt := by rw [c1_1]
  have m1_1 : w1.2.1 94 1 = w.2.1 94 1 := hI1 94 1 rfl
  have mi1_1 : (w1.2.1 94 1).toInt = (w.2.1 94 1).toInt := by rw [m1_1]
  have c1_2 : w1.2.1 41 0 = w.2.1 41 0 := hI1 41 0 rfl
  have ci1_2 : (w1.2.1 41 0).toInt = (w.2.1 41 0).toInt := by rw [c1_2]
  have m1_2 : w1.2.1 94 34 = w.2.1 94 34 := hI1 94 34 rfl
  have mi1_2 : (w1.2.1 94 34).toInt = (w.2.1 94 34).toInt := by rw [m1_2]
  have c1_3 : ∀ k, w1.2.1 42 k = w.2.1 42 k := fun k => hI1 42 k rfl
  have m1_3 : ∀ k, w1.2.1 122 k = w.2.1 122 k := fun k => hI1 122 k rfl
  have c1_4 : w1.2.1 47 3 = w.2.1 47 3 := hI1 47 3 rfl
  have ci1_4 : (w1.2.1 47 3).toInt = (w.2.1 47 3).toInt := by rw [c1_4]
  have m1_4 : w1.2.1 94 35 = w.2.1 94 35 := hI1 94 35 rfl
  have mi1_4 : (w1.2.1 94 35).toInt = (w.2.1 94 35).toInt := by rw [m1_4]
  have c1_5 : ∀ k, w1.2.1 48 k = w.2.1 48 k := fun k => hI1 48 k rfl
  have m1_5 : ∀ k, w1.2.1 123 k = w.2.1 123 k := fun k => hI1 123 k rfl
  have c1_6 : ∀ k, w1.2.1 49 k = w.2.1 49 k := fun k => hI1 49 k rfl
  have m1_6 : ∀ k, w1.2.1 124 k = w.2.1 124 k := fun k => hI1 124 k rfl
  have y1_7_0 : ∀ k, w1.2.1 5 k = w.2.1 5 k := fun k => hI1 5 k rfl
  have y1_7_1 : ∀ k, w1.2.1 98 k = w.2.1 98 k := fun k => hI1 98 k rfl
  have y1_7_2 : ∀ k, w1.2.1 8 k = w.2.1 8 k := fun k => hI1 8 k rfl
  have y1_7_3 : ∀ k, w1.2.1 102 k = w.2.1 102 k := fun k => hI1 102 k rfl
  have y1_7_4 : w1.2.1 1 1 = w.2.1 1 1 := hI1 1 1 rfl
  refine XW.fam (S' := (405, [(3, .int i), (2, .ref 94), (1, .ref 0), (0, .retAddr 0)], [], w1)) (M := mr_371) rfl (show mcode 371 404 = some (404, .pop, 1, 0, 0, 0, _) from rfl) (Or.inr (Or.inr (Or.inr (Or.inr (Or.inr (Or.inl ⟨_, rfl, rfl⟩)))))) ?_
  refine XW.fam (S' := (406, [(3, .int i), (2, .ref 94), (1, .ref 0), (0, .retAddr 0)], [.ref 94], w1)) (M := mr_371) rfl (show mcode 371 405 = some (405, .aload_n 2, 1, 0, 0, 0, _) from rfl) (Or.inl ⟨.ref 94, rfl, rfl⟩) ?_
  refine lw_ld (pc := 406) (n := 1) rfl rfl rfl rfl rfl (by decide) hi0 hi1 hL ?_
  refine XW.call (d' := 41) (mc' := 0) (ms' := 0) (av := [.ref 94, .int (xs (i + Int32.ofInt 1).toNatClampNeg)]) (rest := []) (M := mr_371) (Ma := mr_324) rfl (show mcode 371 411 = some (411, .invokevirtual 31, 3, 324, 0, 0, _) from rfl) rfl (by decide) (by decide) ⟨rfl, 94, _, rfl, (iv_cell hw1).2⟩ rfl rfl (show (0 : Nat) ≤ 8 by decide) (kk_450 [.ref 94, .int (xs (i + Int32.ofInt 1).toNatClampNeg)] w1 hw1 ⟨rfl, in32r g1.1 g1.2, trivial⟩ (fun q hq => by cases hq) hf1) (by decide) (by omega) (by omega) (fun r2 w2 hQ2 => ?_)
  obtain ⟨hf2, hw2, hI2, ⟨x2, rfl, l2, u2⟩, hp2⟩ := hQ2
  have c2_0 : w2.2.1 1 1 = w1.2.1 1 1 := hI2 1 1 rfl
  have ci2_0 : (w2.2.1 1 1).toInt = (w1.2.1 1 1).toInt := by rw [c2_0]
  have m2_0 : w2.2.1 94 2 = w1.2.1 94 2 := hI2 94 2 rfl
  have mi2_0 : (w2.2.1 94 2).toInt = (w1.2.1 94 2).toInt := by rw [m2_0]
  have c2_1 : w2.2.1 1 0 = w1.2.1 1 0 := hI2 1 0 rfl
  have ci2_1 : (w2.2.1 1 0).toInt = (w1.2.1 1 0).toInt := by rw [c2_1]
  have m2_1 : w2.2.1 94 1 = w1.2.1 94 1 := hI2 94 1 rfl
  have mi2_1 : (w2.2.1 94 1).toInt = (w1.2.1 94 1).toInt := by rw [m2_1]
  have c2_2 : w2.2.1 41 0 = w1.2.1 41 0 := hI2 41 0 rfl
  have ci2_2 : (w2.2.1 41 0).toInt = (w1.2.1 41 0).toInt := by rw [c2_2]
  have m2_2 : w2.2.1 94 34 = w1.2.1 94 34 := hI2 94 34 rfl
  have mi2_2 : (w2.2.1 94 34).toInt = (w1.2.1 94 34).toInt := by rw [m2_2]
  have c2_3 : ∀ k, w2.2.1 42 k = w1.2.1 42 k := fun k => hI2 42 k rfl
  have m2_3 : ∀ k, w2.2.1 122 k = w1.2.1 122 k := fun k => hI2 122 k rfl
  have c2_4 : w2.2.1 47 3 = w1.2.1 47 3 := hI2 47 3 rfl
  have ci2_4 : (w2.2.1 47 3).toInt = (w1.2.1 47 3).toInt := by rw [c2_4]
  have m2_4 : w2.2.1 94 35 = w1.2.1 94 35 := hI2 94 35 rfl
  have mi2_4 : (w2.2.1 94 35).toInt = (w1.2.1 94 35).toInt := by rw [m2_4]
  have c2_5 : ∀ k, w2.2.1 48 k = w1.2.1 48 k := fun k => hI2 48 k rfl
  have m2_5 : ∀ k, w2.2.1 123 k = w1.2.1 123 k := fun k => hI2 123 k rfl
  have c2_6 : ∀ k, w2.2.1 49 k = w1.2.1 49 k := fun k => hI2 49 k rfl
  have m2_6 : ∀ k, w2.2.1 124 k = w1.2.1 124 k := fun k => hI2 124 k rfl
  have y2_7_0 : ∀ k, w2.2.1 5 k = w1.2.1 5 k := fun k => hI2 5 k rfl
  have y2_7_1 : ∀ k, w2.2.1 98 k = w1.2.1 98 k := fun k => hI2 98 k rfl
  have y2_7_2 : ∀ k, w2.2.1 8 k = w1.2.1 8 k := fun k => hI2 8 k rfl
  have y2_7_3 : ∀ k, w2.2.1 102 k = w1.2.1 102 k := fun k => hI2 102 k rfl
  have y2_7_4 : w2.2.1 1 1 = w1.2.1 1 1 := hI2 1 1 rfl
  refine XW.fam (S' := (415, [(3, .int i), (2, .ref 94), (1, .ref 0), (0, .retAddr 0)], [], w2)) (M := mr_371) rfl (show mcode 371 414 = some (414, .pop, 1, 0, 0, 0, _) from rfl) (Or.inr (Or.inr (Or.inr (Or.inr (Or.inr (Or.inl ⟨_, rfl, rfl⟩)))))) ?_
  have hv2 : RL w2 := ⟨(c2_0.trans c1_0).trans (hv.1.trans (m1_0.symm.trans m2_0.symm)), (c2_1.trans c1_1).trans (hv.2.1.trans (m1_1.symm.trans m2_1.symm)), (c2_2.trans c1_2).trans (hv.2.2.1.trans (m1_2.symm.trans m2_2.symm)), fun k => ((c2_3 k).trans (c1_3 k)).trans ((hv.2.2.2.1 k).trans ((m1_3 k).symm.trans (m2_3 k).symm)), (c2_4.trans c1_4).trans (hv.2.2.2.2.1.trans (m1_4.symm.trans m2_4.symm)), fun k => ((c2_5 k).trans (c1_5 k)).trans ((hv.2.2.2.2.2.1 k).trans ((m1_5 k).symm.trans (m2_5 k).symm)), fun k => ((c2_6 k).trans (c1_6 k)).trans ((hv.2.2.2.2.2.2.1 k).trans ((m1_6 k).symm.trans (m2_6 k).symm)), RLf_keep (fun k => (y2_7_0 k).trans (y1_7_0 k)) (fun k => (y2_7_1 k).trans (y1_7_1 k)) (fun k => (y2_7_2 k).trans (y1_7_2 k)) (fun k => (y2_7_3 k).trans (y1_7_3 k)) (y2_7_4.trans y1_7_4) hv.2.2.2.2.2.2.2⟩
  refine XW.fam (S' := (2217, [(3, .int i), (2, .ref 94), (1, .ref 0), (0, .retAddr 0)], [], w2)) (M := mr_371) rfl (show mcode 371 415 = some (415, .goto 1802, 3, 2217, 0, 0, _) from rfl) (Or.inr (Or.inl ⟨2217, [], rfl, rfl⟩)) ?_
  exact XW.wid (mc := mc) (ms := ms) (by omega) (by omega) (K w2 ⟨hf2, ⟨_, _, hw2⟩, hv2⟩)
set_option maxRecDepth 100000 in
theorem case_3_2 {Ln : Nat} {xs : Nat → Int32} {mc ms : Nat} {w : mW} {i : Int32} (g1 : 1 ≤ (xs (i + Int32.ofInt 1).toNatClampNeg).toInt ∧ (xs (i + Int32.ofInt 1).toNatClampNeg).toInt ≤ 60) (g2 : (w.2.1 1 0).toInt + (xs (i + Int32.ofInt 1).toNatClampNeg).toInt ≤ 700) (hi0 : 0 ≤ i.toInt) (hi1 : i.toInt + 6 ≤ Ln) (hL : Ln ≤ 3072) (hV : IV w) (K : ∀ w', IV w' → XW 371 mr_371 (some (Ln, xs)) 91 mc ms Qone (2217, [(3, .int i), (2, .ref 94), (1, .ref 0), (0, .retAddr 0)], [], w')) : XW 371 mr_371 (some (Ln, xs)) 91 (mc + 1) (ms + 240) Qone (395, [(3, .int i), (2, .ref 94), (1, .ref 0), (0, .retAddr 0)], [], w) := by
  obtain ⟨hf, ⟨sh, R, hw⟩, hv⟩ := hV
  have hvi0 : (w.2.1 1 1).toInt = (w.2.1 94 2).toInt := congrArg Int32.toInt hv.1
  have hvi1 : (w.2.1 1 0).toInt = (w.2.1 94 1).toInt := congrArg Int32.toInt hv.2.1
  have hvi2 : (w.2.1 41 0).toInt = (w.2.1 94 34).toInt := congrArg Int32.toInt hv.2.2.1
  have hvi4 : (w.2.1 47 3).toInt = (w.2.1 94 35).toInt := congrArg Int32.toInt hv.2.2.2.2.1
  refine XW.fam (S' := (396, [(3, .int i), (2, .ref 94), (1, .ref 0), (0, .retAddr 0)], [.ref 0], w)) (M := mr_371) rfl (show mcode 371 395 = some (395, .aload_n 1, 1, 0, 0, 0, _) from rfl) (Or.inl ⟨.ref 0, rfl, rfl⟩) ?_
  refine lw_ld (pc := 396) (n := 1) rfl rfl rfl rfl rfl (by decide) hi0 hi1 hL ?_
  refine XW.call (d' := 44) (mc' := 0) (ms' := 0) (av := [.ref 0, .int (xs (i + Int32.ofInt 1).toNatClampNeg)]) (rest := []) (M := mr_371) (Ma := mr_26) rfl (show mcode 371 401 = some (401, .invokevirtual 27, 3, 26, 0, 0, _) from rfl) rfl (by decide) (by decide) ⟨rfl, 0, _, rfl, (iv_cell hw).1⟩ rfl rfl (show (0 : Nat) ≤ 8 by decide) (kk_447 [.ref 0, .int (xs (i + Int32.ofInt 1).toNatClampNeg)] w hw ⟨rfl, in32r g1.1 g1.2, trivial⟩ (fun q hq => by rcases List.mem_singleton.mp hq with rfl; show 0 ≤ ((0 + (-1) * ((xs (i + Int32.ofInt 1).toNatClampNeg)).toInt) + (-1) * (w.2.1 1 0).toInt) + 700; omega) hf) (by decide) (by omega) (by omega) (fun r1 w1 hQ1 => ?_)
  obtain ⟨hf1, hw1, hI1, ⟨x1, rfl, l1, u1⟩, hp1⟩ := hQ1
  have c1_0 : w1.2.1 1 1 = w.2.1 1 1 := hI1 1 1 rfl
  have ci1_0 : (w1.2.1 1 1).toInt = (w.2.1 1 1).toInt := by rw [c1_0]
  have m1_0 : w1.2.1 94 2 = w.2.1 94 2 := hI1 94 2 rfl
  have mi1_0 : (w1.2.1 94 2).toInt = (w.2.1 94 2).toInt := by rw [m1_0]
  have m1_1 : w1.2.1 94 1 = w.2.1 94 1 := hI1 94 1 rfl
  have mi1_1 : (w1.2.1 94 1).toInt = (w.2.1 94 1).toInt := by rw [m1_1]
  have c1_2 : w1.2.1 41 0 = w.2.1 41 0 := hI1 41 0 rfl
  have ci1_2 : (w1.2.1 41 0).toInt = (w.2.1 41 0).toInt := by rw [c1_2]
  have m1_2 : w1.2.1 94 34 = w.2.1 94 34 := hI1 94 34 rfl
  have mi1_2 : (w1.2.1 94 34).toInt = (w.2.1 94 34).toInt := by rw [m1_2]
  have c1_3 : ∀ k, w1.2.1 42 k = w.2.1 42 k := fun k => hI1 42 k rfl
  have m1_3 : ∀ k, w1.2.1 122 k = w.2.1 122 k := fun k => hI1 122 k rfl
  have c1_4 : w1.2.1 47 3 = w.2.1 47 3 := hI1 47 3 rfl
  have ci1_4 : (w1.2.1 47 3).toInt = (w.2.1 47 3).toInt := by rw [c1_4]
  have m1_4 : w1.2.1 94 35 = w.2.1 94 35 := hI1 94 35 rfl
  have mi1_4 : (w1.2.1 94 35).toInt = (w.2.1 94 35).toInt := by rw [m1_4]
  have c1_5 : ∀ k, w1.2.1 48 k = w.2.1 48 k := fun k => hI1 48 k rfl
  have m1_5 : ∀ k, w1.2.1 123 k = w.2.1 123 k := fun k => hI1 123 k rfl
  have c1_6 : ∀ k, w1.2.1 49 k = w.2.1 49 k := fun k => hI1 49 k rfl
  have m1_6 : ∀ k, w1.2.1 124 k = w.2.1 124 k := fun k => hI1 124 k rfl
  have y1_7_0 : ∀ k, w1.2.1 5 k = w.2.1 5 k := fun k => hI1 5 k rfl
  have y1_7_1 : ∀ k, w1.2.1 98 k = w.2.1 98 k := fun k => hI1 98 k rfl
  have y1_7_2 : ∀ k, w1.2.1 8 k = w.2.1 8 k := fun k => hI1 8 k rfl
  have y1_7_3 : ∀ k, w1.2.1 102 k = w.2.1 102 k := fun k => hI1 102 k rfl
  have y1_7_4 : w1.2.1 1 1 = w.2.1 1 1 := hI1 1 1 rfl
  have p1_0 := hp1 (0, [((3, 0, 0), 1), ((2, 1, 0), (-1)), ((0, 1, 0), (-1))]) (List.mem_of_getElem? (i := 0) rfl)
  have p1_0 : 0 ≤ (((0 + (-1) * ((xs (i + Int32.ofInt 1).toNatClampNeg)).toInt) + (-1) * (w.2.1 1 0).toInt) + 1 * x1.toInt) + 0 := p1_0
  have p1_1 := hp1 (0, [((3, 0, 0), (-1)), ((2, 1, 0), 1), ((0, 1, 0), 1)]) (List.mem_of_getElem? (i := 1) rfl)
  have p1_1 : 0 ≤ (((0 + 1 * ((xs (i + Int32.ofInt 1).toNatClampNeg)).toInt) + 1 * (w.2.1 1 0).toInt) + (-1) * x1.toInt) + 0 := p1_1
  have p1_2 := hp1 (0, [((1, 1, 0), 1), ((3, 0, 0), (-1))]) (List.mem_of_getElem? (i := 2) rfl)
  have p1_2 : 0 ≤ ((0 + (-1) * x1.toInt) + 1 * (w1.2.1 1 0).toInt) + 0 := p1_2
  have p1_3 := hp1 (0, [((1, 1, 0), (-1)), ((3, 0, 0), 1)]) (List.mem_of_getElem? (i := 3) rfl)
  have p1_3 : 0 ≤ ((0 + 1 * x1.toInt) + (-1) * (w1.2.1 1 0).toInt) + 0 := p1_3
  refine XW.fam (S' := (405, [(3, .int i), (2, .ref 94), (1, .ref 0), (0, .retAddr 0)], [], w1)) (M := mr_371) rfl (show mcode 371 404 = some (404, .pop, 1, 0, 0, 0, _) from rfl) (Or.inr (Or.inr (Or.inr (Or.inr (Or.inr (Or.inl ⟨_, rfl, rfl⟩)))))) ?_
  refine XW.fam (S' := (406, [(3, .int i), (2, .ref 94), (1, .ref 0), (0, .retAddr 0)], [.ref 94], w1)) (M := mr_371) rfl (show mcode 371 405 = some (405, .aload_n 2, 1, 0, 0, 0, _) from rfl) (Or.inl ⟨.ref 94, rfl, rfl⟩) ?_
  refine lw_ld (pc := 406) (n := 1) rfl rfl rfl rfl rfl (by decide) hi0 hi1 hL ?_
  refine XW.call (d' := 43) (mc' := 0) (ms' := 0) (av := [.ref 94, .int (xs (i + Int32.ofInt 1).toNatClampNeg)]) (rest := []) (M := mr_371) (Ma := mr_324) rfl (show mcode 371 411 = some (411, .invokevirtual 31, 3, 324, 0, 0, _) from rfl) rfl (by decide) (by decide) ⟨rfl, 94, _, rfl, (iv_cell hw1).2⟩ rfl rfl (show (0 : Nat) ≤ 8 by decide) (kk_451 [.ref 94, .int (xs (i + Int32.ofInt 1).toNatClampNeg)] w1 hw1 ⟨rfl, in32r g1.1 g1.2, trivial⟩ (fun q hq => by rcases List.mem_singleton.mp hq with rfl; show 0 ≤ ((0 + (-1) * ((xs (i + Int32.ofInt 1).toNatClampNeg)).toInt) + (-1) * (w1.2.1 94 1).toInt) + 700; omega) hf1) (by decide) (by omega) (by omega) (fun r2 w2 hQ2 => ?_)
  obtain ⟨hf2, hw2, hI2, ⟨x2, rfl, l2, u2⟩, hp2⟩ := hQ2
  have c2_0 : w2.2.1 1 1 = w1.2.1 1 1 := hI2 1 1 rfl
  have ci2_0 : (w2.2.1 1 1).toInt = (w1.2.1 1 1).toInt := by rw [c2_0]
  have m2_0 : w2.2.1 94 2 = w1.2.1 94 2 := hI2 94 2 rfl
  have mi2_0 : (w2.2.1 94 2).toInt = (w1.2.1 94 2).toInt := by rw [m2_0]
  have c2_1 : w2.2.1 1 0 = w1.2.1 1 0 := hI2 1 0 rfl
  have ci2_1 : (w2.2.1 1 0).toInt = (w1.2.1 1 0).toInt := by rw [c2_1]
  have c2_2 : w2.2.1 41 0 = w1.2.1 41 0 := hI2 41 0 rfl
  have ci2_2 : (w2.2.1 41 0).toInt = (w1.2.1 41 0).toInt := by rw [c2_2]
  have m2_2 : w2.2.1 94 34 = w1.2.1 94 34 := hI2 94 34 rfl
  have mi2_2 : (w2.2.1 94 34).toInt = (w1.2.1 94 34).toInt := by rw [m2_2]
  have c2_3 : ∀ k, w2.2.1 42 k = w1.2.1 42 k := fun k => hI2 42 k rfl
  have m2_3 : ∀ k, w2.2.1 122 k = w1.2.1 122 k := fun k => hI2 122 k rfl
  have c2_4 : w2.2.1 47 3 = w1.2.1 47 3 := hI2 47 3 rfl
  have ci2_4 : (w2.2.1 47 3).toInt = (w1.2.1 47 3).toInt := by rw [c2_4]
  have m2_4 : w2.2.1 94 35 = w1.2.1 94 35 := hI2 94 35 rfl
  have mi2_4 : (w2.2.1 94 35).toInt = (w1.2.1 94 35).toInt := by rw [m2_4]
  have c2_5 : ∀ k, w2.2.1 48 k = w1.2.1 48 k := fun k => hI2 48 k rfl
  have m2_5 : ∀ k, w2.2.1 123 k = w1.2.1 123 k := fun k => hI2 123 k rfl
  have c2_6 : ∀ k, w2.2.1 49 k = w1.2.1 49 k := fun k => hI2 49 k rfl
  have m2_6 : ∀ k, w2.2.1 124 k = w1.2.1 124 k := fun k => hI2 124 k rfl
  have y2_7_0 : ∀ k, w2.2.1 5 k = w1.2.1 5 k := fun k => hI2 5 k rfl
  have y2_7_1 : ∀ k, w2.2.1 98 k = w1.2.1 98 k := fun k => hI2 98 k rfl
  have y2_7_2 : ∀ k, w2.2.1 8 k = w1.2.1 8 k := fun k => hI2 8 k rfl
  have y2_7_3 : ∀ k, w2.2.1 102 k = w1.2.1 102 k := fun k => hI2 102 k rfl
  have y2_7_4 : w2.2.1 1 1 = w1.2.1 1 1 := hI2 1 1 rfl
  have p2_0 := hp2 (0, [((3, 0, 0), 1), ((2, 94, 1), (-1)), ((0, 1, 0), (-1))]) (List.mem_of_getElem? (i := 0) rfl)
  have p2_0 : 0 ≤ (((0 + (-1) * ((xs (i + Int32.ofInt 1).toNatClampNeg)).toInt) + (-1) * (w1.2.1 94 1).toInt) + 1 * x2.toInt) + 0 := p2_0
  have p2_1 := hp2 (0, [((3, 0, 0), (-1)), ((2, 94, 1), 1), ((0, 1, 0), 1)]) (List.mem_of_getElem? (i := 1) rfl)
  have p2_1 : 0 ≤ (((0 + 1 * ((xs (i + Int32.ofInt 1).toNatClampNeg)).toInt) + 1 * (w1.2.1 94 1).toInt) + (-1) * x2.toInt) + 0 := p2_1
  have p2_2 := hp2 (0, [((1, 94, 1), 1), ((3, 0, 0), (-1))]) (List.mem_of_getElem? (i := 2) rfl)
  have p2_2 : 0 ≤ ((0 + (-1) * x2.toInt) + 1 * (w2.2.1 94 1).toInt) + 0 := p2_2
  have p2_3 := hp2 (0, [((1, 94, 1), (-1)), ((3, 0, 0), 1)]) (List.mem_of_getElem? (i := 3) rfl)
  have p2_3 : 0 ≤ ((0 + 1 * x2.toInt) + (-1) * (w2.2.1 94 1).toInt) + 0 := p2_3
  refine XW.fam (S' := (415, [(3, .int i), (2, .ref 94), (1, .ref 0), (0, .retAddr 0)], [], w2)) (M := mr_371) rfl (show mcode 371 414 = some (414, .pop, 1, 0, 0, 0, _) from rfl) (Or.inr (Or.inr (Or.inr (Or.inr (Or.inr (Or.inl ⟨_, rfl, rfl⟩)))))) ?_
  have hv2 : RL w2 := ⟨(c2_0.trans c1_0).trans (hv.1.trans (m1_0.symm.trans m2_0.symm)), Int32.toInt_inj.mp (by omega), (c2_2.trans c1_2).trans (hv.2.2.1.trans (m1_2.symm.trans m2_2.symm)), fun k => ((c2_3 k).trans (c1_3 k)).trans ((hv.2.2.2.1 k).trans ((m1_3 k).symm.trans (m2_3 k).symm)), (c2_4.trans c1_4).trans (hv.2.2.2.2.1.trans (m1_4.symm.trans m2_4.symm)), fun k => ((c2_5 k).trans (c1_5 k)).trans ((hv.2.2.2.2.2.1 k).trans ((m1_5 k).symm.trans (m2_5 k).symm)), fun k => ((c2_6 k).trans (c1_6 k)).trans ((hv.2.2.2.2.2.2.1 k).trans ((m1_6 k).symm.trans (m2_6 k).symm)), RLf_keep (fun k => (y2_7_0 k).trans (y1_7_0 k)) (fun k => (y2_7_1 k).trans (y1_7_1 k)) (fun k => (y2_7_2 k).trans (y1_7_2 k)) (fun k => (y2_7_3 k).trans (y1_7_3 k)) (y2_7_4.trans y1_7_4) hv.2.2.2.2.2.2.2⟩
  refine XW.fam (S' := (2217, [(3, .int i), (2, .ref 94), (1, .ref 0), (0, .retAddr 0)], [], w2)) (M := mr_371) rfl (show mcode 371 415 = some (415, .goto 1802, 3, 2217, 0, 0, _) from rfl) (Or.inr (Or.inl ⟨2217, [], rfl, rfl⟩)) ?_
  exact XW.wid (mc := mc) (ms := ms) (by omega) (by omega) (K w2 ⟨hf2, ⟨_, _, hw2⟩, hv2⟩)
set_option maxRecDepth 100000 in
theorem case_3_3 {Ln : Nat} {xs : Nat → Int32} {mc ms : Nat} {w : mW} {i : Int32} (g1 : 1 ≤ (xs (i + Int32.ofInt 1).toNatClampNeg).toInt ∧ (xs (i + Int32.ofInt 1).toNatClampNeg).toInt ≤ 60) (g2 : 701 ≤ (w.2.1 1 0).toInt + (xs (i + Int32.ofInt 1).toNatClampNeg).toInt) (hi0 : 0 ≤ i.toInt) (hi1 : i.toInt + 6 ≤ Ln) (hL : Ln ≤ 3072) (hV : IV w) (K : ∀ w', IV w' → XW 371 mr_371 (some (Ln, xs)) 91 mc ms Qone (2217, [(3, .int i), (2, .ref 94), (1, .ref 0), (0, .retAddr 0)], [], w')) : XW 371 mr_371 (some (Ln, xs)) 91 (mc + 1) (ms + 240) Qone (395, [(3, .int i), (2, .ref 94), (1, .ref 0), (0, .retAddr 0)], [], w) := by
  obtain ⟨hf, ⟨sh, R, hw⟩, hv⟩ := hV
  have hvi0 : (w.2.1 1 1).toInt = (w.2.1 94 2).toInt := congrArg Int32.toInt hv.1
  have hvi1 : (w.2.1 1 0).toInt = (w.2.1 94 1).toInt := congrArg Int32.toInt hv.2.1
  have hvi2 : (w.2.1 41 0).toInt = (w.2.1 94 34).toInt := congrArg Int32.toInt hv.2.2.1
  have hvi4 : (w.2.1 47 3).toInt = (w.2.1 94 35).toInt := congrArg Int32.toInt hv.2.2.2.2.1
  refine XW.fam (S' := (396, [(3, .int i), (2, .ref 94), (1, .ref 0), (0, .retAddr 0)], [.ref 0], w)) (M := mr_371) rfl (show mcode 371 395 = some (395, .aload_n 1, 1, 0, 0, 0, _) from rfl) (Or.inl ⟨.ref 0, rfl, rfl⟩) ?_
  refine lw_ld (pc := 396) (n := 1) rfl rfl rfl rfl rfl (by decide) hi0 hi1 hL ?_
  refine XW.call (d' := 41) (mc' := 0) (ms' := 0) (av := [.ref 0, .int (xs (i + Int32.ofInt 1).toNatClampNeg)]) (rest := []) (M := mr_371) (Ma := mr_26) rfl (show mcode 371 401 = some (401, .invokevirtual 27, 3, 26, 0, 0, _) from rfl) rfl (by decide) (by decide) ⟨rfl, 0, _, rfl, (iv_cell hw).1⟩ rfl rfl (show (0 : Nat) ≤ 8 by decide) (kk_448 [.ref 0, .int (xs (i + Int32.ofInt 1).toNatClampNeg)] w hw ⟨rfl, in32r g1.1 g1.2, trivial⟩ (fun q hq => by rcases List.mem_singleton.mp hq with rfl; show 0 ≤ ((0 + 1 * ((xs (i + Int32.ofInt 1).toNatClampNeg)).toInt) + 1 * (w.2.1 1 0).toInt) + (-701); omega) hf) (by decide) (by omega) (by omega) (fun r1 w1 hQ1 => ?_)
  obtain ⟨hf1, hw1, hI1, ⟨x1, rfl, l1, u1⟩, hp1⟩ := hQ1
  have c1_0 : w1.2.1 1 1 = w.2.1 1 1 := hI1 1 1 rfl
  have ci1_0 : (w1.2.1 1 1).toInt = (w.2.1 1 1).toInt := by rw [c1_0]
  have m1_0 : w1.2.1 94 2 = w.2.1 94 2 := hI1 94 2 rfl
  have mi1_0 : (w1.2.1 94 2).toInt = (w.2.1 94 2).toInt := by rw [m1_0]
  have c1_1 : w1.2.1 1 0 = w.2.1 1 0 := hI1 1 0 rfl
  have ci1_1 : (w1.2.1 1 0).toInt = (w.2.1 1 0).toInt := by rw [c1_1]
  have m1_1 : w1.2.1 94 1 = w.2.1 94 1 := hI1 94 1 rfl
  have mi1_1 : (w1.2.1 94 1).toInt = (w.2.1 94 1).toInt := by rw [m1_1]
  have c1_2 : w1.2.1 41 0 = w.2.1 41 0 := hI1 41 0 rfl
  have ci1_2 : (w1.2.1 41 0).toInt = (w.2.1 41 0).toInt := by rw [c1_2]
  have m1_2 : w1.2.1 94 34 = w.2.1 94 34 := hI1 94 34 rfl
  have mi1_2 : (w1.2.1 94 34).toInt = (w.2.1 94 34).toInt := by rw [m1_2]
  have c1_3 : ∀ k, w1.2.1 42 k = w.2.1 42 k := fun k => hI1 42 k rfl
  have m1_3 : ∀ k, w1.2.1 122 k = w.2.1 122 k := fun k => hI1 122 k rfl
  have c1_4 : w1.2.1 47 3 = w.2.1 47 3 := hI1 47 3 rfl
  have ci1_4 : (w1.2.1 47 3).toInt = (w.2.1 47 3).toInt := by rw [c1_4]
  have m1_4 : w1.2.1 94 35 = w.2.1 94 35 := hI1 94 35 rfl
  have mi1_4 : (w1.2.1 94 35).toInt = (w.2.1 94 35).toInt := by rw [m1_4]
  have c1_5 : ∀ k, w1.2.1 48 k = w.2.1 48 k := fun k => hI1 48 k rfl
  have m1_5 : ∀ k, w1.2.1 123 k = w.2.1 123 k := fun k => hI1 123 k rfl
  have c1_6 : ∀ k, w1.2.1 49 k = w.2.1 49 k := fun k => hI1 49 k rfl
  have m1_6 : ∀ k, w1.2.1 124 k = w.2.1 124 k := fun k => hI1 124 k rfl
  have y1_7_0 : ∀ k, w1.2.1 5 k = w.2.1 5 k := fun k => hI1 5 k rfl
  have y1_7_1 : ∀ k, w1.2.1 98 k = w.2.1 98 k := fun k => hI1 98 k rfl
  have y1_7_2 : ∀ k, w1.2.1 8 k = w.2.1 8 k := fun k => hI1 8 k rfl
  have y1_7_3 : ∀ k, w1.2.1 102 k = w.2.1 102 k := fun k => hI1 102 k rfl
  have y1_7_4 : w1.2.1 1 1 = w.2.1 1 1 := hI1 1 1 rfl
  have p1_0 := hp1 (0, [((1, 1, 0), 1), ((2, 1, 0), (-1))]) (List.mem_of_getElem? (i := 0) rfl)
  have p1_0 : 0 ≤ ((0 + (-1) * (w.2.1 1 0).toInt) + 1 * (w1.2.1 1 0).toInt) + 0 := p1_0
  have p1_1 := hp1 (0, [((1, 1, 0), (-1)), ((2, 1, 0), 1)]) (List.mem_of_getElem? (i := 1) rfl)
  have p1_1 : 0 ≤ ((0 + 1 * (w.2.1 1 0).toInt) + (-1) * (w1.2.1 1 0).toInt) + 0 := p1_1
  refine XW.fam (S' := (405, [(3, .int i), (2, .ref 94), (1, .ref 0), (0, .retAddr 0)], [], w1)) (M := mr_371) rfl (show mcode 371 404 = some (404, .pop, 1, 0, 0, 0, _) from rfl) (Or.inr (Or.inr (Or.inr (Or.inr (Or.inr (Or.inl ⟨_, rfl, rfl⟩)))))) ?_
  refine XW.fam (S' := (406, [(3, .int i), (2, .ref 94), (1, .ref 0), (0, .retAddr 0)], [.ref 94], w1)) (M := mr_371) rfl (show mcode 371 405 = some (405, .aload_n 2, 1, 0, 0, 0, _) from rfl) (Or.inl ⟨.ref 94, rfl, rfl⟩) ?_
  refine lw_ld (pc := 406) (n := 1) rfl rfl rfl rfl rfl (by decide) hi0 hi1 hL ?_
  refine XW.call (d' := 41) (mc' := 0) (ms' := 0) (av := [.ref 94, .int (xs (i + Int32.ofInt 1).toNatClampNeg)]) (rest := []) (M := mr_371) (Ma := mr_324) rfl (show mcode 371 411 = some (411, .invokevirtual 31, 3, 324, 0, 0, _) from rfl) rfl (by decide) (by decide) ⟨rfl, 94, _, rfl, (iv_cell hw1).2⟩ rfl rfl (show (0 : Nat) ≤ 8 by decide) (kk_452 [.ref 94, .int (xs (i + Int32.ofInt 1).toNatClampNeg)] w1 hw1 ⟨rfl, in32r g1.1 g1.2, trivial⟩ (fun q hq => by rcases List.mem_singleton.mp hq with rfl; show 0 ≤ ((0 + 1 * ((xs (i + Int32.ofInt 1).toNatClampNeg)).toInt) + 1 * (w1.2.1 94 1).toInt) + (-701); omega) hf1) (by decide) (by omega) (by omega) (fun r2 w2 hQ2 => ?_)
  obtain ⟨hf2, hw2, hI2, ⟨x2, rfl, l2, u2⟩, hp2⟩ := hQ2
  have c2_0 : w2.2.1 1 1 = w1.2.1 1 1 := hI2 1 1 rfl
  have ci2_0 : (w2.2.1 1 1).toInt = (w1.2.1 1 1).toInt := by rw [c2_0]
  have m2_0 : w2.2.1 94 2 = w1.2.1 94 2 := hI2 94 2 rfl
  have mi2_0 : (w2.2.1 94 2).toInt = (w1.2.1 94 2).toInt := by rw [m2_0]
  have c2_1 : w2.2.1 1 0 = w1.2.1 1 0 := hI2 1 0 rfl
  have ci2_1 : (w2.2.1 1 0).toInt = (w1.2.1 1 0).toInt := by rw [c2_1]
  have m2_1 : w2.2.1 94 1 = w1.2.1 94 1 := hI2 94 1 rfl
  have mi2_1 : (w2.2.1 94 1).toInt = (w1.2.1 94 1).toInt := by rw [m2_1]
  have c2_2 : w2.2.1 41 0 = w1.2.1 41 0 := hI2 41 0 rfl
  have ci2_2 : (w2.2.1 41 0).toInt = (w1.2.1 41 0).toInt := by rw [c2_2]
  have m2_2 : w2.2.1 94 34 = w1.2.1 94 34 := hI2 94 34 rfl
  have mi2_2 : (w2.2.1 94 34).toInt = (w1.2.1 94 34).toInt := by rw [m2_2]
  have c2_3 : ∀ k, w2.2.1 42 k = w1.2.1 42 k := fun k => hI2 42 k rfl
  have m2_3 : ∀ k, w2.2.1 122 k = w1.2.1 122 k := fun k => hI2 122 k rfl
  have c2_4 : w2.2.1 47 3 = w1.2.1 47 3 := hI2 47 3 rfl
  have ci2_4 : (w2.2.1 47 3).toInt = (w1.2.1 47 3).toInt := by rw [c2_4]
  have m2_4 : w2.2.1 94 35 = w1.2.1 94 35 := hI2 94 35 rfl
  have mi2_4 : (w2.2.1 94 35).toInt = (w1.2.1 94 35).toInt := by rw [m2_4]
  have c2_5 : ∀ k, w2.2.1 48 k = w1.2.1 48 k := fun k => hI2 48 k rfl
  have m2_5 : ∀ k, w2.2.1 123 k = w1.2.1 123 k := fun k => hI2 123 k rfl
  have c2_6 : ∀ k, w2.2.1 49 k = w1.2.1 49 k := fun k => hI2 49 k rfl
  have m2_6 : ∀ k, w2.2.1 124 k = w1.2.1 124 k := fun k => hI2 124 k rfl
  have y2_7_0 : ∀ k, w2.2.1 5 k = w1.2.1 5 k := fun k => hI2 5 k rfl
  have y2_7_1 : ∀ k, w2.2.1 98 k = w1.2.1 98 k := fun k => hI2 98 k rfl
  have y2_7_2 : ∀ k, w2.2.1 8 k = w1.2.1 8 k := fun k => hI2 8 k rfl
  have y2_7_3 : ∀ k, w2.2.1 102 k = w1.2.1 102 k := fun k => hI2 102 k rfl
  have y2_7_4 : w2.2.1 1 1 = w1.2.1 1 1 := hI2 1 1 rfl
  have p2_0 := hp2 (0, [((1, 94, 1), 1), ((2, 94, 1), (-1))]) (List.mem_of_getElem? (i := 0) rfl)
  have p2_0 : 0 ≤ ((0 + (-1) * (w1.2.1 94 1).toInt) + 1 * (w2.2.1 94 1).toInt) + 0 := p2_0
  have p2_1 := hp2 (0, [((1, 94, 1), (-1)), ((2, 94, 1), 1)]) (List.mem_of_getElem? (i := 1) rfl)
  have p2_1 : 0 ≤ ((0 + 1 * (w1.2.1 94 1).toInt) + (-1) * (w2.2.1 94 1).toInt) + 0 := p2_1
  refine XW.fam (S' := (415, [(3, .int i), (2, .ref 94), (1, .ref 0), (0, .retAddr 0)], [], w2)) (M := mr_371) rfl (show mcode 371 414 = some (414, .pop, 1, 0, 0, 0, _) from rfl) (Or.inr (Or.inr (Or.inr (Or.inr (Or.inr (Or.inl ⟨_, rfl, rfl⟩)))))) ?_
  have hv2 : RL w2 := ⟨(c2_0.trans c1_0).trans (hv.1.trans (m1_0.symm.trans m2_0.symm)), (c2_1.trans c1_1).trans (hv.2.1.trans (m1_1.symm.trans m2_1.symm)), (c2_2.trans c1_2).trans (hv.2.2.1.trans (m1_2.symm.trans m2_2.symm)), fun k => ((c2_3 k).trans (c1_3 k)).trans ((hv.2.2.2.1 k).trans ((m1_3 k).symm.trans (m2_3 k).symm)), (c2_4.trans c1_4).trans (hv.2.2.2.2.1.trans (m1_4.symm.trans m2_4.symm)), fun k => ((c2_5 k).trans (c1_5 k)).trans ((hv.2.2.2.2.2.1 k).trans ((m1_5 k).symm.trans (m2_5 k).symm)), fun k => ((c2_6 k).trans (c1_6 k)).trans ((hv.2.2.2.2.2.2.1 k).trans ((m1_6 k).symm.trans (m2_6 k).symm)), RLf_keep (fun k => (y2_7_0 k).trans (y1_7_0 k)) (fun k => (y2_7_1 k).trans (y1_7_1 k)) (fun k => (y2_7_2 k).trans (y1_7_2 k)) (fun k => (y2_7_3 k).trans (y1_7_3 k)) (y2_7_4.trans y1_7_4) hv.2.2.2.2.2.2.2⟩
  refine XW.fam (S' := (2217, [(3, .int i), (2, .ref 94), (1, .ref 0), (0, .retAddr 0)], [], w2)) (M := mr_371) rfl (show mcode 371 415 = some (415, .goto 1802, 3, 2217, 0, 0, _) from rfl) (Or.inr (Or.inl ⟨2217, [], rfl, rfl⟩)) ?_
  exact XW.wid (mc := mc) (ms := ms) (by omega) (by omega) (K w2 ⟨hf2, ⟨_, _, hw2⟩, hv2⟩)
theorem case_3 {Ln : Nat} {xs : Nat → Int32} {mc ms : Nat} {w : mW} {i : Int32} (hi0 : 0 ≤ i.toInt) (hi1 : i.toInt + 6 ≤ Ln) (hL : Ln ≤ 3072) (hV : IV w) (K : ∀ w', IV w' → XW 371 mr_371 (some (Ln, xs)) 91 mc ms Qone (2217, [(3, .int i), (2, .ref 94), (1, .ref 0), (0, .retAddr 0)], [], w')) : XW 371 mr_371 (some (Ln, xs)) 91 (mc + 1) (ms + 240) Qone (395, [(3, .int i), (2, .ref 94), (1, .ref 0), (0, .retAddr 0)], [], w) := by
  have b1 := i32b (xs (i + Int32.ofInt 1).toNatClampNeg)
  unfold lo32 hi32 at b1
  by_cases a1 : (xs (i + Int32.ofInt 1).toNatClampNeg).toInt ≤ 0
  · exact case_3_0 ⟨b1.1, a1⟩ hi0 hi1 hL hV K
  by_cases a2 : 61 ≤ (xs (i + Int32.ofInt 1).toNatClampNeg).toInt
  · exact case_3_1 ⟨a2, b1.2⟩ hi0 hi1 hL hV K
  have g1 : 1 ≤ (xs (i + Int32.ofInt 1).toNatClampNeg).toInt ∧ (xs (i + Int32.ofInt 1).toNatClampNeg).toInt ≤ 60 := ⟨by omega, by omega⟩
  by_cases a3 : (w.2.1 1 0).toInt + (xs (i + Int32.ofInt 1).toNatClampNeg).toInt ≤ 700
  · exact case_3_2 g1 a3 hi0 hi1 hL hV K
  exact case_3_3 g1 (by omega) hi0 hi1 hL hV K
set_option maxRecDepth 100000 in
theorem case_4 {Ln : Nat} {xs : Nat → Int32} {mc ms : Nat} {w : mW} {i : Int32} (hi0 : 0 ≤ i.toInt) (hi1 : i.toInt + 6 ≤ Ln) (hL : Ln ≤ 3072) (hV : IV w) (K : ∀ w', IV w' → XW 371 mr_371 (some (Ln, xs)) 91 mc ms Qone (2217, [(3, .int i), (2, .ref 94), (1, .ref 0), (0, .retAddr 0)], [], w')) : XW 371 mr_371 (some (Ln, xs)) 91 (mc + 1) (ms + 240) Qone (418, [(3, .int i), (2, .ref 94), (1, .ref 0), (0, .retAddr 0)], [], w) := by
  obtain ⟨hf, ⟨sh, R, hw⟩, hv⟩ := hV
  refine XW.fam (S' := (419, [(3, .int i), (2, .ref 94), (1, .ref 0), (0, .retAddr 0)], [.ref 0], w)) (M := mr_371) rfl (show mcode 371 418 = some (418, .aload_n 1, 1, 0, 0, 0, _) from rfl) (Or.inl ⟨.ref 0, rfl, rfl⟩) ?_
  refine lw_ld (pc := 419) (n := 1) rfl rfl rfl rfl rfl (by decide) hi0 hi1 hL ?_
  refine XW.call (d' := 41) (mc' := 0) (ms' := 0) (av := [.ref 0, .int (xs (i + Int32.ofInt 1).toNatClampNeg)]) (rest := []) (M := mr_371) (Ma := mr_35) rfl (show mcode 371 424 = some (424, .invokevirtual 32, 3, 35, 0, 0, _) from rfl) rfl (by decide) (by decide) ⟨rfl, 0, _, rfl, (iv_cell hw).1⟩ rfl rfl (show _ ≤ 8 by decide) (kk_13 [.ref 0, .int (xs (i + Int32.ofInt 1).toNatClampNeg)] w hw ⟨rfl, any32 _, trivial⟩ (fun q hq => by cases hq) hf) (by decide) (by omega) (by omega) (fun r1 w1 hQ1 => ?_)
  obtain ⟨hf1, hw1, hI1, ⟨x1, rfl, -, -⟩, -⟩ := hQ1
  have c1_0 : w1.2.1 1 1 = w.2.1 1 1 := hI1 1 1 rfl
  have m1_0 : w1.2.1 94 2 = w.2.1 94 2 := hI1 94 2 rfl
  have c1_1 : w1.2.1 1 0 = w.2.1 1 0 := hI1 1 0 rfl
  have m1_1 : w1.2.1 94 1 = w.2.1 94 1 := hI1 94 1 rfl
  have c1_2 : w1.2.1 41 0 = w.2.1 41 0 := hI1 41 0 rfl
  have m1_2 : w1.2.1 94 34 = w.2.1 94 34 := hI1 94 34 rfl
  have c1_3 : ∀ k, w1.2.1 42 k = w.2.1 42 k := fun k => hI1 42 k rfl
  have m1_3 : ∀ k, w1.2.1 122 k = w.2.1 122 k := fun k => hI1 122 k rfl
  have c1_4 : w1.2.1 47 3 = w.2.1 47 3 := hI1 47 3 rfl
  have m1_4 : w1.2.1 94 35 = w.2.1 94 35 := hI1 94 35 rfl
  have c1_5 : ∀ k, w1.2.1 48 k = w.2.1 48 k := fun k => hI1 48 k rfl
  have m1_5 : ∀ k, w1.2.1 123 k = w.2.1 123 k := fun k => hI1 123 k rfl
  have c1_6 : ∀ k, w1.2.1 49 k = w.2.1 49 k := fun k => hI1 49 k rfl
  have m1_6 : ∀ k, w1.2.1 124 k = w.2.1 124 k := fun k => hI1 124 k rfl
  have y1_7_0 : ∀ k, w1.2.1 5 k = w.2.1 5 k := fun k => hI1 5 k rfl
  have y1_7_1 : ∀ k, w1.2.1 98 k = w.2.1 98 k := fun k => hI1 98 k rfl
  have y1_7_2 : ∀ k, w1.2.1 8 k = w.2.1 8 k := fun k => hI1 8 k rfl
  have y1_7_3 : ∀ k, w1.2.1 102 k = w.2.1 102 k := fun k => hI1 102 k rfl
  have y1_7_4 : w1.2.1 1 1 = w.2.1 1 1 := hI1 1 1 rfl
  refine XW.fam (S' := (428, [(3, .int i), (2, .ref 94), (1, .ref 0), (0, .retAddr 0)], [], w1)) (M := mr_371) rfl (show mcode 371 427 = some (427, .pop, 1, 0, 0, 0, _) from rfl) (Or.inr (Or.inr (Or.inr (Or.inr (Or.inr (Or.inl ⟨_, rfl, rfl⟩)))))) ?_
  refine XW.fam (S' := (429, [(3, .int i), (2, .ref 94), (1, .ref 0), (0, .retAddr 0)], [.ref 94], w1)) (M := mr_371) rfl (show mcode 371 428 = some (428, .aload_n 2, 1, 0, 0, 0, _) from rfl) (Or.inl ⟨.ref 94, rfl, rfl⟩) ?_
  refine lw_ld (pc := 429) (n := 1) rfl rfl rfl rfl rfl (by decide) hi0 hi1 hL ?_
  refine XW.call (d' := 41) (mc' := 0) (ms' := 0) (av := [.ref 94, .int (xs (i + Int32.ofInt 1).toNatClampNeg)]) (rest := []) (M := mr_371) (Ma := mr_242) rfl (show mcode 371 434 = some (434, .invokevirtual 35, 3, 242, 0, 0, _) from rfl) rfl (by decide) (by decide) ⟨rfl, 94, _, rfl, (iv_cell hw1).2⟩ rfl rfl (show _ ≤ 8 by decide) (kk_232 [.ref 94, .int (xs (i + Int32.ofInt 1).toNatClampNeg)] w1 hw1 ⟨rfl, any32 _, trivial⟩ (fun q hq => by cases hq) hf1) (by decide) (by omega) (by omega) (fun r2 w2 hQ2 => ?_)
  obtain ⟨hf2, hw2, hI2, ⟨x2, rfl, -, -⟩, -⟩ := hQ2
  have c2_0 : w2.2.1 1 1 = w1.2.1 1 1 := hI2 1 1 rfl
  have m2_0 : w2.2.1 94 2 = w1.2.1 94 2 := hI2 94 2 rfl
  have c2_1 : w2.2.1 1 0 = w1.2.1 1 0 := hI2 1 0 rfl
  have m2_1 : w2.2.1 94 1 = w1.2.1 94 1 := hI2 94 1 rfl
  have c2_2 : w2.2.1 41 0 = w1.2.1 41 0 := hI2 41 0 rfl
  have m2_2 : w2.2.1 94 34 = w1.2.1 94 34 := hI2 94 34 rfl
  have c2_3 : ∀ k, w2.2.1 42 k = w1.2.1 42 k := fun k => hI2 42 k rfl
  have m2_3 : ∀ k, w2.2.1 122 k = w1.2.1 122 k := fun k => hI2 122 k rfl
  have c2_4 : w2.2.1 47 3 = w1.2.1 47 3 := hI2 47 3 rfl
  have m2_4 : w2.2.1 94 35 = w1.2.1 94 35 := hI2 94 35 rfl
  have c2_5 : ∀ k, w2.2.1 48 k = w1.2.1 48 k := fun k => hI2 48 k rfl
  have m2_5 : ∀ k, w2.2.1 123 k = w1.2.1 123 k := fun k => hI2 123 k rfl
  have c2_6 : ∀ k, w2.2.1 49 k = w1.2.1 49 k := fun k => hI2 49 k rfl
  have m2_6 : ∀ k, w2.2.1 124 k = w1.2.1 124 k := fun k => hI2 124 k rfl
  have y2_7_0 : ∀ k, w2.2.1 5 k = w1.2.1 5 k := fun k => hI2 5 k rfl
  have y2_7_1 : ∀ k, w2.2.1 98 k = w1.2.1 98 k := fun k => hI2 98 k rfl
  have y2_7_2 : ∀ k, w2.2.1 8 k = w1.2.1 8 k := fun k => hI2 8 k rfl
  have y2_7_3 : ∀ k, w2.2.1 102 k = w1.2.1 102 k := fun k => hI2 102 k rfl
  have y2_7_4 : w2.2.1 1 1 = w1.2.1 1 1 := hI2 1 1 rfl
  refine XW.fam (S' := (438, [(3, .int i), (2, .ref 94), (1, .ref 0), (0, .retAddr 0)], [], w2)) (M := mr_371) rfl (show mcode 371 437 = some (437, .pop, 1, 0, 0, 0, _) from rfl) (Or.inr (Or.inr (Or.inr (Or.inr (Or.inr (Or.inl ⟨_, rfl, rfl⟩)))))) ?_
  refine XW.fam (S' := (2217, [(3, .int i), (2, .ref 94), (1, .ref 0), (0, .retAddr 0)], [], w2)) (M := mr_371) rfl (show mcode 371 438 = some (438, .goto 1779, 3, 2217, 0, 0, _) from rfl) (Or.inr (Or.inl ⟨2217, [], rfl, rfl⟩)) ?_
  exact XW.wid (mc := mc) (ms := ms) (by omega) (by omega) (K w2 ⟨hf2, ⟨_, _, hw2⟩, ⟨(c2_0.trans c1_0).trans (hv.1.trans (m1_0.symm.trans m2_0.symm)), (c2_1.trans c1_1).trans (hv.2.1.trans (m1_1.symm.trans m2_1.symm)), (c2_2.trans c1_2).trans (hv.2.2.1.trans (m1_2.symm.trans m2_2.symm)), fun k => ((c2_3 k).trans (c1_3 k)).trans ((hv.2.2.2.1 k).trans ((m1_3 k).symm.trans (m2_3 k).symm)), (c2_4.trans c1_4).trans (hv.2.2.2.2.1.trans (m1_4.symm.trans m2_4.symm)), fun k => ((c2_5 k).trans (c1_5 k)).trans ((hv.2.2.2.2.2.1 k).trans ((m1_5 k).symm.trans (m2_5 k).symm)), fun k => ((c2_6 k).trans (c1_6 k)).trans ((hv.2.2.2.2.2.2.1 k).trans ((m1_6 k).symm.trans (m2_6 k).symm)), RLf_keep (fun k => (y2_7_0 k).trans (y1_7_0 k)) (fun k => (y2_7_1 k).trans (y1_7_1 k)) (fun k => (y2_7_2 k).trans (y1_7_2 k)) (fun k => (y2_7_3 k).trans (y1_7_3 k)) (y2_7_4.trans y1_7_4) hv.2.2.2.2.2.2.2⟩⟩)
set_option maxRecDepth 100000 in
theorem case_5 {Ln : Nat} {xs : Nat → Int32} {mc ms : Nat} {w : mW} {i : Int32} (hi0 : 0 ≤ i.toInt) (hi1 : i.toInt + 6 ≤ Ln) (hL : Ln ≤ 3072) (hV : IV w) (K : ∀ w', IV w' → XW 371 mr_371 (some (Ln, xs)) 91 mc ms Qone (2217, [(3, .int i), (2, .ref 94), (1, .ref 0), (0, .retAddr 0)], [], w')) : XW 371 mr_371 (some (Ln, xs)) 91 (mc + 1) (ms + 240) Qone (441, [(3, .int i), (2, .ref 94), (1, .ref 0), (0, .retAddr 0)], [], w) := by
  obtain ⟨hf, ⟨sh, R, hw⟩, hv⟩ := hV
  refine XW.fam (S' := (442, [(3, .int i), (2, .ref 94), (1, .ref 0), (0, .retAddr 0)], [.ref 0], w)) (M := mr_371) rfl (show mcode 371 441 = some (441, .aload_n 1, 1, 0, 0, 0, _) from rfl) (Or.inl ⟨.ref 0, rfl, rfl⟩) ?_
  refine lw_ld (pc := 442) (n := 1) rfl rfl rfl rfl rfl (by decide) hi0 hi1 hL ?_
  refine lw_ld (pc := 447) (n := 2) rfl rfl rfl rfl rfl (by decide) hi0 hi1 hL ?_
  refine lw_ld (pc := 452) (n := 3) rfl rfl rfl rfl rfl (by decide) hi0 hi1 hL ?_
  refine lw_ld (pc := 457) (n := 4) rfl rfl rfl rfl rfl (by decide) hi0 hi1 hL ?_
  refine XW.call (d' := 44) (mc' := 0) (ms' := 0) (av := [.ref 0, .int (xs (i + Int32.ofInt 1).toNatClampNeg), .int (xs (i + Int32.ofInt 2).toNatClampNeg), .int (xs (i + Int32.ofInt 3).toNatClampNeg), .int (xs (i + Int32.ofInt 4).toNatClampNeg)]) (rest := []) (M := mr_371) (Ma := mr_37) rfl (show mcode 371 462 = some (462, .invokevirtual 36, 3, 37, 0, 0, _) from rfl) rfl (by decide) (by decide) ⟨rfl, 0, _, rfl, (iv_cell hw).1⟩ rfl rfl (show _ ≤ 8 by decide) (kk_16 [.ref 0, .int (xs (i + Int32.ofInt 1).toNatClampNeg), .int (xs (i + Int32.ofInt 2).toNatClampNeg), .int (xs (i + Int32.ofInt 3).toNatClampNeg), .int (xs (i + Int32.ofInt 4).toNatClampNeg)] w hw ⟨rfl, any32 _, any32 _, any32 _, any32 _, trivial⟩ (fun q hq => by cases hq) hf) (by decide) (by omega) (by omega) (fun r1 w1 hQ1 => ?_)
  obtain ⟨hf1, hw1, hI1, ⟨x1, rfl, -, -⟩, -⟩ := hQ1
  have c1_0 : w1.2.1 1 1 = w.2.1 1 1 := hI1 1 1 rfl
  have m1_0 : w1.2.1 94 2 = w.2.1 94 2 := hI1 94 2 rfl
  have c1_1 : w1.2.1 1 0 = w.2.1 1 0 := hI1 1 0 rfl
  have m1_1 : w1.2.1 94 1 = w.2.1 94 1 := hI1 94 1 rfl
  have c1_2 : w1.2.1 41 0 = w.2.1 41 0 := hI1 41 0 rfl
  have m1_2 : w1.2.1 94 34 = w.2.1 94 34 := hI1 94 34 rfl
  have c1_3 : ∀ k, w1.2.1 42 k = w.2.1 42 k := fun k => hI1 42 k rfl
  have m1_3 : ∀ k, w1.2.1 122 k = w.2.1 122 k := fun k => hI1 122 k rfl
  have c1_4 : w1.2.1 47 3 = w.2.1 47 3 := hI1 47 3 rfl
  have m1_4 : w1.2.1 94 35 = w.2.1 94 35 := hI1 94 35 rfl
  have c1_5 : ∀ k, w1.2.1 48 k = w.2.1 48 k := fun k => hI1 48 k rfl
  have m1_5 : ∀ k, w1.2.1 123 k = w.2.1 123 k := fun k => hI1 123 k rfl
  have c1_6 : ∀ k, w1.2.1 49 k = w.2.1 49 k := fun k => hI1 49 k rfl
  have m1_6 : ∀ k, w1.2.1 124 k = w.2.1 124 k := fun k => hI1 124 k rfl
  have y1_7_0 : ∀ k, w1.2.1 5 k = w.2.1 5 k := fun k => hI1 5 k rfl
  have y1_7_1 : ∀ k, w1.2.1 98 k = w.2.1 98 k := fun k => hI1 98 k rfl
  have y1_7_2 : ∀ k, w1.2.1 8 k = w.2.1 8 k := fun k => hI1 8 k rfl
  have y1_7_3 : ∀ k, w1.2.1 102 k = w.2.1 102 k := fun k => hI1 102 k rfl
  have y1_7_4 : w1.2.1 1 1 = w.2.1 1 1 := hI1 1 1 rfl
  refine XW.fam (S' := (466, [(3, .int i), (2, .ref 94), (1, .ref 0), (0, .retAddr 0)], [], w1)) (M := mr_371) rfl (show mcode 371 465 = some (465, .pop, 1, 0, 0, 0, _) from rfl) (Or.inr (Or.inr (Or.inr (Or.inr (Or.inr (Or.inl ⟨_, rfl, rfl⟩)))))) ?_
  refine XW.fam (S' := (467, [(3, .int i), (2, .ref 94), (1, .ref 0), (0, .retAddr 0)], [.ref 94], w1)) (M := mr_371) rfl (show mcode 371 466 = some (466, .aload_n 2, 1, 0, 0, 0, _) from rfl) (Or.inl ⟨.ref 94, rfl, rfl⟩) ?_
  refine lw_ld (pc := 467) (n := 1) rfl rfl rfl rfl rfl (by decide) hi0 hi1 hL ?_
  refine lw_ld (pc := 472) (n := 2) rfl rfl rfl rfl rfl (by decide) hi0 hi1 hL ?_
  refine lw_ld (pc := 477) (n := 3) rfl rfl rfl rfl rfl (by decide) hi0 hi1 hL ?_
  refine lw_ld (pc := 482) (n := 4) rfl rfl rfl rfl rfl (by decide) hi0 hi1 hL ?_
  refine XW.call (d' := 42) (mc' := 0) (ms' := 0) (av := [.ref 94, .int (xs (i + Int32.ofInt 1).toNatClampNeg), .int (xs (i + Int32.ofInt 2).toNatClampNeg), .int (xs (i + Int32.ofInt 3).toNatClampNeg), .int (xs (i + Int32.ofInt 4).toNatClampNeg)]) (rest := []) (M := mr_371) (Ma := mr_244) rfl (show mcode 371 487 = some (487, .invokevirtual 39, 3, 244, 0, 0, _) from rfl) rfl (by decide) (by decide) ⟨rfl, 94, _, rfl, (iv_cell hw1).2⟩ rfl rfl (show _ ≤ 8 by decide) (kk_234 [.ref 94, .int (xs (i + Int32.ofInt 1).toNatClampNeg), .int (xs (i + Int32.ofInt 2).toNatClampNeg), .int (xs (i + Int32.ofInt 3).toNatClampNeg), .int (xs (i + Int32.ofInt 4).toNatClampNeg)] w1 hw1 ⟨rfl, any32 _, any32 _, any32 _, any32 _, trivial⟩ (fun q hq => by cases hq) hf1) (by decide) (by omega) (by omega) (fun r2 w2 hQ2 => ?_)
  obtain ⟨hf2, hw2, hI2, ⟨x2, rfl, -, -⟩, -⟩ := hQ2
  have c2_0 : w2.2.1 1 1 = w1.2.1 1 1 := hI2 1 1 rfl
  have m2_0 : w2.2.1 94 2 = w1.2.1 94 2 := hI2 94 2 rfl
  have c2_1 : w2.2.1 1 0 = w1.2.1 1 0 := hI2 1 0 rfl
  have m2_1 : w2.2.1 94 1 = w1.2.1 94 1 := hI2 94 1 rfl
  have c2_2 : w2.2.1 41 0 = w1.2.1 41 0 := hI2 41 0 rfl
  have m2_2 : w2.2.1 94 34 = w1.2.1 94 34 := hI2 94 34 rfl
  have c2_3 : ∀ k, w2.2.1 42 k = w1.2.1 42 k := fun k => hI2 42 k rfl
  have m2_3 : ∀ k, w2.2.1 122 k = w1.2.1 122 k := fun k => hI2 122 k rfl
  have c2_4 : w2.2.1 47 3 = w1.2.1 47 3 := hI2 47 3 rfl
  have m2_4 : w2.2.1 94 35 = w1.2.1 94 35 := hI2 94 35 rfl
  have c2_5 : ∀ k, w2.2.1 48 k = w1.2.1 48 k := fun k => hI2 48 k rfl
  have m2_5 : ∀ k, w2.2.1 123 k = w1.2.1 123 k := fun k => hI2 123 k rfl
  have c2_6 : ∀ k, w2.2.1 49 k = w1.2.1 49 k := fun k => hI2 49 k rfl
  have m2_6 : ∀ k, w2.2.1 124 k = w1.2.1 124 k := fun k => hI2 124 k rfl
  have y2_7_0 : ∀ k, w2.2.1 5 k = w1.2.1 5 k := fun k => hI2 5 k rfl
  have y2_7_1 : ∀ k, w2.2.1 98 k = w1.2.1 98 k := fun k => hI2 98 k rfl
  have y2_7_2 : ∀ k, w2.2.1 8 k = w1.2.1 8 k := fun k => hI2 8 k rfl
  have y2_7_3 : ∀ k, w2.2.1 102 k = w1.2.1 102 k := fun k => hI2 102 k rfl
  have y2_7_4 : w2.2.1 1 1 = w1.2.1 1 1 := hI2 1 1 rfl
  refine XW.fam (S' := (491, [(3, .int i), (2, .ref 94), (1, .ref 0), (0, .retAddr 0)], [], w2)) (M := mr_371) rfl (show mcode 371 490 = some (490, .pop, 1, 0, 0, 0, _) from rfl) (Or.inr (Or.inr (Or.inr (Or.inr (Or.inr (Or.inl ⟨_, rfl, rfl⟩)))))) ?_
  refine XW.fam (S' := (2217, [(3, .int i), (2, .ref 94), (1, .ref 0), (0, .retAddr 0)], [], w2)) (M := mr_371) rfl (show mcode 371 491 = some (491, .goto 1726, 3, 2217, 0, 0, _) from rfl) (Or.inr (Or.inl ⟨2217, [], rfl, rfl⟩)) ?_
  exact XW.wid (mc := mc) (ms := ms) (by omega) (by omega) (K w2 ⟨hf2, ⟨_, _, hw2⟩, ⟨(c2_0.trans c1_0).trans (hv.1.trans (m1_0.symm.trans m2_0.symm)), (c2_1.trans c1_1).trans (hv.2.1.trans (m1_1.symm.trans m2_1.symm)), (c2_2.trans c1_2).trans (hv.2.2.1.trans (m1_2.symm.trans m2_2.symm)), fun k => ((c2_3 k).trans (c1_3 k)).trans ((hv.2.2.2.1 k).trans ((m1_3 k).symm.trans (m2_3 k).symm)), (c2_4.trans c1_4).trans (hv.2.2.2.2.1.trans (m1_4.symm.trans m2_4.symm)), fun k => ((c2_5 k).trans (c1_5 k)).trans ((hv.2.2.2.2.2.1 k).trans ((m1_5 k).symm.trans (m2_5 k).symm)), fun k => ((c2_6 k).trans (c1_6 k)).trans ((hv.2.2.2.2.2.2.1 k).trans ((m1_6 k).symm.trans (m2_6 k).symm)), RLf_keep (fun k => (y2_7_0 k).trans (y1_7_0 k)) (fun k => (y2_7_1 k).trans (y1_7_1 k)) (fun k => (y2_7_2 k).trans (y1_7_2 k)) (fun k => (y2_7_3 k).trans (y1_7_3 k)) (y2_7_4.trans y1_7_4) hv.2.2.2.2.2.2.2⟩⟩)
set_option maxRecDepth 100000 in
theorem case_6 {Ln : Nat} {xs : Nat → Int32} {mc ms : Nat} {w : mW} {i : Int32} (hi0 : 0 ≤ i.toInt) (hi1 : i.toInt + 6 ≤ Ln) (hL : Ln ≤ 3072) (hV : IV w) (K : ∀ w', IV w' → XW 371 mr_371 (some (Ln, xs)) 91 mc ms Qone (2217, [(3, .int i), (2, .ref 94), (1, .ref 0), (0, .retAddr 0)], [], w')) : XW 371 mr_371 (some (Ln, xs)) 91 (mc + 1) (ms + 240) Qone (494, [(3, .int i), (2, .ref 94), (1, .ref 0), (0, .retAddr 0)], [], w) := by
  obtain ⟨hf, ⟨sh, R, hw⟩, hv⟩ := hV
  refine XW.fam (S' := (495, [(3, .int i), (2, .ref 94), (1, .ref 0), (0, .retAddr 0)], [.ref 0], w)) (M := mr_371) rfl (show mcode 371 494 = some (494, .aload_n 1, 1, 0, 0, 0, _) from rfl) (Or.inl ⟨.ref 0, rfl, rfl⟩) ?_
  refine lw_ld (pc := 495) (n := 1) rfl rfl rfl rfl rfl (by decide) hi0 hi1 hL ?_
  refine XW.call (d' := 41) (mc' := 0) (ms' := 0) (av := [.ref 0, .int (xs (i + Int32.ofInt 1).toNatClampNeg)]) (rest := []) (M := mr_371) (Ma := mr_46) rfl (show mcode 371 500 = some (500, .invokevirtual 40, 3, 46, 0, 0, _) from rfl) rfl (by decide) (by decide) ⟨rfl, 0, _, rfl, (iv_cell hw).1⟩ rfl rfl (show _ ≤ 8 by decide) (kk_17 [.ref 0, .int (xs (i + Int32.ofInt 1).toNatClampNeg)] w hw ⟨rfl, any32 _, trivial⟩ (fun q hq => by cases hq) hf) (by decide) (by omega) (by omega) (fun r1 w1 hQ1 => ?_)
  obtain ⟨hf1, hw1, hI1, ⟨x1, rfl, -, -⟩, -⟩ := hQ1
  have c1_0 : w1.2.1 1 1 = w.2.1 1 1 := hI1 1 1 rfl
  have m1_0 : w1.2.1 94 2 = w.2.1 94 2 := hI1 94 2 rfl
  have c1_1 : w1.2.1 1 0 = w.2.1 1 0 := hI1 1 0 rfl
  have m1_1 : w1.2.1 94 1 = w.2.1 94 1 := hI1 94 1 rfl
  have c1_2 : w1.2.1 41 0 = w.2.1 41 0 := hI1 41 0 rfl
  have m1_2 : w1.2.1 94 34 = w.2.1 94 34 := hI1 94 34 rfl
  have c1_3 : ∀ k, w1.2.1 42 k = w.2.1 42 k := fun k => hI1 42 k rfl
  have m1_3 : ∀ k, w1.2.1 122 k = w.2.1 122 k := fun k => hI1 122 k rfl
  have c1_4 : w1.2.1 47 3 = w.2.1 47 3 := hI1 47 3 rfl
  have m1_4 : w1.2.1 94 35 = w.2.1 94 35 := hI1 94 35 rfl
  have c1_5 : ∀ k, w1.2.1 48 k = w.2.1 48 k := fun k => hI1 48 k rfl
  have m1_5 : ∀ k, w1.2.1 123 k = w.2.1 123 k := fun k => hI1 123 k rfl
  have c1_6 : ∀ k, w1.2.1 49 k = w.2.1 49 k := fun k => hI1 49 k rfl
  have m1_6 : ∀ k, w1.2.1 124 k = w.2.1 124 k := fun k => hI1 124 k rfl
  have y1_7_0 : ∀ k, w1.2.1 5 k = w.2.1 5 k := fun k => hI1 5 k rfl
  have y1_7_1 : ∀ k, w1.2.1 98 k = w.2.1 98 k := fun k => hI1 98 k rfl
  have y1_7_2 : ∀ k, w1.2.1 8 k = w.2.1 8 k := fun k => hI1 8 k rfl
  have y1_7_3 : ∀ k, w1.2.1 102 k = w.2.1 102 k := fun k => hI1 102 k rfl
  have y1_7_4 : w1.2.1 1 1 = w.2.1 1 1 := hI1 1 1 rfl
  refine XW.fam (S' := (504, [(3, .int i), (2, .ref 94), (1, .ref 0), (0, .retAddr 0)], [], w1)) (M := mr_371) rfl (show mcode 371 503 = some (503, .pop, 1, 0, 0, 0, _) from rfl) (Or.inr (Or.inr (Or.inr (Or.inr (Or.inr (Or.inl ⟨_, rfl, rfl⟩)))))) ?_
  refine XW.fam (S' := (505, [(3, .int i), (2, .ref 94), (1, .ref 0), (0, .retAddr 0)], [.ref 94], w1)) (M := mr_371) rfl (show mcode 371 504 = some (504, .aload_n 2, 1, 0, 0, 0, _) from rfl) (Or.inl ⟨.ref 94, rfl, rfl⟩) ?_
  refine lw_ld (pc := 505) (n := 1) rfl rfl rfl rfl rfl (by decide) hi0 hi1 hL ?_
  refine XW.call (d' := 41) (mc' := 0) (ms' := 0) (av := [.ref 94, .int (xs (i + Int32.ofInt 1).toNatClampNeg)]) (rest := []) (M := mr_371) (Ma := mr_250) rfl (show mcode 371 510 = some (510, .invokevirtual 43, 3, 250, 0, 0, _) from rfl) rfl (by decide) (by decide) ⟨rfl, 94, _, rfl, (iv_cell hw1).2⟩ rfl rfl (show _ ≤ 8 by decide) (kk_235 [.ref 94, .int (xs (i + Int32.ofInt 1).toNatClampNeg)] w1 hw1 ⟨rfl, any32 _, trivial⟩ (fun q hq => by cases hq) hf1) (by decide) (by omega) (by omega) (fun r2 w2 hQ2 => ?_)
  obtain ⟨hf2, hw2, hI2, ⟨x2, rfl, -, -⟩, -⟩ := hQ2
  have c2_0 : w2.2.1 1 1 = w1.2.1 1 1 := hI2 1 1 rfl
  have m2_0 : w2.2.1 94 2 = w1.2.1 94 2 := hI2 94 2 rfl
  have c2_1 : w2.2.1 1 0 = w1.2.1 1 0 := hI2 1 0 rfl
  have m2_1 : w2.2.1 94 1 = w1.2.1 94 1 := hI2 94 1 rfl
  have c2_2 : w2.2.1 41 0 = w1.2.1 41 0 := hI2 41 0 rfl
  have m2_2 : w2.2.1 94 34 = w1.2.1 94 34 := hI2 94 34 rfl
  have c2_3 : ∀ k, w2.2.1 42 k = w1.2.1 42 k := fun k => hI2 42 k rfl
  have m2_3 : ∀ k, w2.2.1 122 k = w1.2.1 122 k := fun k => hI2 122 k rfl
  have c2_4 : w2.2.1 47 3 = w1.2.1 47 3 := hI2 47 3 rfl
  have m2_4 : w2.2.1 94 35 = w1.2.1 94 35 := hI2 94 35 rfl
  have c2_5 : ∀ k, w2.2.1 48 k = w1.2.1 48 k := fun k => hI2 48 k rfl
  have m2_5 : ∀ k, w2.2.1 123 k = w1.2.1 123 k := fun k => hI2 123 k rfl
  have c2_6 : ∀ k, w2.2.1 49 k = w1.2.1 49 k := fun k => hI2 49 k rfl
  have m2_6 : ∀ k, w2.2.1 124 k = w1.2.1 124 k := fun k => hI2 124 k rfl
  have y2_7_0 : ∀ k, w2.2.1 5 k = w1.2.1 5 k := fun k => hI2 5 k rfl
  have y2_7_1 : ∀ k, w2.2.1 98 k = w1.2.1 98 k := fun k => hI2 98 k rfl
  have y2_7_2 : ∀ k, w2.2.1 8 k = w1.2.1 8 k := fun k => hI2 8 k rfl
  have y2_7_3 : ∀ k, w2.2.1 102 k = w1.2.1 102 k := fun k => hI2 102 k rfl
  have y2_7_4 : w2.2.1 1 1 = w1.2.1 1 1 := hI2 1 1 rfl
  refine XW.fam (S' := (514, [(3, .int i), (2, .ref 94), (1, .ref 0), (0, .retAddr 0)], [], w2)) (M := mr_371) rfl (show mcode 371 513 = some (513, .pop, 1, 0, 0, 0, _) from rfl) (Or.inr (Or.inr (Or.inr (Or.inr (Or.inr (Or.inl ⟨_, rfl, rfl⟩)))))) ?_
  refine XW.fam (S' := (2217, [(3, .int i), (2, .ref 94), (1, .ref 0), (0, .retAddr 0)], [], w2)) (M := mr_371) rfl (show mcode 371 514 = some (514, .goto 1703, 3, 2217, 0, 0, _) from rfl) (Or.inr (Or.inl ⟨2217, [], rfl, rfl⟩)) ?_
  exact XW.wid (mc := mc) (ms := ms) (by omega) (by omega) (K w2 ⟨hf2, ⟨_, _, hw2⟩, ⟨(c2_0.trans c1_0).trans (hv.1.trans (m1_0.symm.trans m2_0.symm)), (c2_1.trans c1_1).trans (hv.2.1.trans (m1_1.symm.trans m2_1.symm)), (c2_2.trans c1_2).trans (hv.2.2.1.trans (m1_2.symm.trans m2_2.symm)), fun k => ((c2_3 k).trans (c1_3 k)).trans ((hv.2.2.2.1 k).trans ((m1_3 k).symm.trans (m2_3 k).symm)), (c2_4.trans c1_4).trans (hv.2.2.2.2.1.trans (m1_4.symm.trans m2_4.symm)), fun k => ((c2_5 k).trans (c1_5 k)).trans ((hv.2.2.2.2.2.1 k).trans ((m1_5 k).symm.trans (m2_5 k).symm)), fun k => ((c2_6 k).trans (c1_6 k)).trans ((hv.2.2.2.2.2.2.1 k).trans ((m1_6 k).symm.trans (m2_6 k).symm)), RLf_keep (fun k => (y2_7_0 k).trans (y1_7_0 k)) (fun k => (y2_7_1 k).trans (y1_7_1 k)) (fun k => (y2_7_2 k).trans (y1_7_2 k)) (fun k => (y2_7_3 k).trans (y1_7_3 k)) (y2_7_4.trans y1_7_4) hv.2.2.2.2.2.2.2⟩⟩)
set_option maxRecDepth 100000 in
theorem case_7 {Ln : Nat} {xs : Nat → Int32} {mc ms : Nat} {w : mW} {i : Int32} (hi0 : 0 ≤ i.toInt) (hi1 : i.toInt + 6 ≤ Ln) (hL : Ln ≤ 3072) (hV : IV w) (K : ∀ w', IV w' → XW 371 mr_371 (some (Ln, xs)) 91 mc ms Qone (2217, [(3, .int i), (2, .ref 94), (1, .ref 0), (0, .retAddr 0)], [], w')) : XW 371 mr_371 (some (Ln, xs)) 91 (mc + 1) (ms + 240) Qone (517, [(3, .int i), (2, .ref 94), (1, .ref 0), (0, .retAddr 0)], [], w) := by
  obtain ⟨hf, ⟨sh, R, hw⟩, hv⟩ := hV
  refine XW.fam (S' := (518, [(3, .int i), (2, .ref 94), (1, .ref 0), (0, .retAddr 0)], [.ref 0], w)) (M := mr_371) rfl (show mcode 371 517 = some (517, .aload_n 1, 1, 0, 0, 0, _) from rfl) (Or.inl ⟨.ref 0, rfl, rfl⟩) ?_
  refine lw_ld (pc := 518) (n := 1) rfl rfl rfl rfl rfl (by decide) hi0 hi1 hL ?_
  refine lw_ld (pc := 523) (n := 2) rfl rfl rfl rfl rfl (by decide) hi0 hi1 hL ?_
  refine XW.call (d' := 41) (mc' := 0) (ms' := 0) (av := [.ref 0, .int (xs (i + Int32.ofInt 1).toNatClampNeg), .int (xs (i + Int32.ofInt 2).toNatClampNeg)]) (rest := []) (M := mr_371) (Ma := mr_49) rfl (show mcode 371 528 = some (528, .invokevirtual 44, 3, 49, 0, 0, _) from rfl) rfl (by decide) (by decide) ⟨rfl, 0, _, rfl, (iv_cell hw).1⟩ rfl rfl (show _ ≤ 8 by decide) (kk_18 [.ref 0, .int (xs (i + Int32.ofInt 1).toNatClampNeg), .int (xs (i + Int32.ofInt 2).toNatClampNeg)] w hw ⟨rfl, any32 _, any32 _, trivial⟩ (fun q hq => by cases hq) hf) (by decide) (by omega) (by omega) (fun r1 w1 hQ1 => ?_)
  obtain ⟨hf1, hw1, hI1, ⟨x1, rfl, -, -⟩, -⟩ := hQ1
  have c1_0 : w1.2.1 1 1 = w.2.1 1 1 := hI1 1 1 rfl
  have m1_0 : w1.2.1 94 2 = w.2.1 94 2 := hI1 94 2 rfl
  have c1_1 : w1.2.1 1 0 = w.2.1 1 0 := hI1 1 0 rfl
  have m1_1 : w1.2.1 94 1 = w.2.1 94 1 := hI1 94 1 rfl
  have c1_2 : w1.2.1 41 0 = w.2.1 41 0 := hI1 41 0 rfl
  have m1_2 : w1.2.1 94 34 = w.2.1 94 34 := hI1 94 34 rfl
  have c1_3 : ∀ k, w1.2.1 42 k = w.2.1 42 k := fun k => hI1 42 k rfl
  have m1_3 : ∀ k, w1.2.1 122 k = w.2.1 122 k := fun k => hI1 122 k rfl
  have c1_4 : w1.2.1 47 3 = w.2.1 47 3 := hI1 47 3 rfl
  have m1_4 : w1.2.1 94 35 = w.2.1 94 35 := hI1 94 35 rfl
  have c1_5 : ∀ k, w1.2.1 48 k = w.2.1 48 k := fun k => hI1 48 k rfl
  have m1_5 : ∀ k, w1.2.1 123 k = w.2.1 123 k := fun k => hI1 123 k rfl
  have c1_6 : ∀ k, w1.2.1 49 k = w.2.1 49 k := fun k => hI1 49 k rfl
  have m1_6 : ∀ k, w1.2.1 124 k = w.2.1 124 k := fun k => hI1 124 k rfl
  have y1_7_0 : ∀ k, w1.2.1 5 k = w.2.1 5 k := fun k => hI1 5 k rfl
  have y1_7_1 : ∀ k, w1.2.1 98 k = w.2.1 98 k := fun k => hI1 98 k rfl
  have y1_7_2 : ∀ k, w1.2.1 8 k = w.2.1 8 k := fun k => hI1 8 k rfl
  have y1_7_3 : ∀ k, w1.2.1 102 k = w.2.1 102 k := fun k => hI1 102 k rfl
  have y1_7_4 : w1.2.1 1 1 = w.2.1 1 1 := hI1 1 1 rfl
  refine XW.fam (S' := (532, [(3, .int i), (2, .ref 94), (1, .ref 0), (0, .retAddr 0)], [], w1)) (M := mr_371) rfl (show mcode 371 531 = some (531, .pop, 1, 0, 0, 0, _) from rfl) (Or.inr (Or.inr (Or.inr (Or.inr (Or.inr (Or.inl ⟨_, rfl, rfl⟩)))))) ?_
  refine XW.fam (S' := (533, [(3, .int i), (2, .ref 94), (1, .ref 0), (0, .retAddr 0)], [.ref 94], w1)) (M := mr_371) rfl (show mcode 371 532 = some (532, .aload_n 2, 1, 0, 0, 0, _) from rfl) (Or.inl ⟨.ref 94, rfl, rfl⟩) ?_
  refine lw_ld (pc := 533) (n := 1) rfl rfl rfl rfl rfl (by decide) hi0 hi1 hL ?_
  refine lw_ld (pc := 538) (n := 2) rfl rfl rfl rfl rfl (by decide) hi0 hi1 hL ?_
  refine XW.call (d' := 41) (mc' := 0) (ms' := 0) (av := [.ref 94, .int (xs (i + Int32.ofInt 1).toNatClampNeg), .int (xs (i + Int32.ofInt 2).toNatClampNeg)]) (rest := []) (M := mr_371) (Ma := mr_252) rfl (show mcode 371 543 = some (543, .invokevirtual 47, 3, 252, 0, 0, _) from rfl) rfl (by decide) (by decide) ⟨rfl, 94, _, rfl, (iv_cell hw1).2⟩ rfl rfl (show _ ≤ 8 by decide) (kk_236 [.ref 94, .int (xs (i + Int32.ofInt 1).toNatClampNeg), .int (xs (i + Int32.ofInt 2).toNatClampNeg)] w1 hw1 ⟨rfl, any32 _, any32 _, trivial⟩ (fun q hq => by cases hq) hf1) (by decide) (by omega) (by omega) (fun r2 w2 hQ2 => ?_)
  obtain ⟨hf2, hw2, hI2, ⟨x2, rfl, -, -⟩, -⟩ := hQ2
  have c2_0 : w2.2.1 1 1 = w1.2.1 1 1 := hI2 1 1 rfl
  have m2_0 : w2.2.1 94 2 = w1.2.1 94 2 := hI2 94 2 rfl
  have c2_1 : w2.2.1 1 0 = w1.2.1 1 0 := hI2 1 0 rfl
  have m2_1 : w2.2.1 94 1 = w1.2.1 94 1 := hI2 94 1 rfl
  have c2_2 : w2.2.1 41 0 = w1.2.1 41 0 := hI2 41 0 rfl
  have m2_2 : w2.2.1 94 34 = w1.2.1 94 34 := hI2 94 34 rfl
  have c2_3 : ∀ k, w2.2.1 42 k = w1.2.1 42 k := fun k => hI2 42 k rfl
  have m2_3 : ∀ k, w2.2.1 122 k = w1.2.1 122 k := fun k => hI2 122 k rfl
  have c2_4 : w2.2.1 47 3 = w1.2.1 47 3 := hI2 47 3 rfl
  have m2_4 : w2.2.1 94 35 = w1.2.1 94 35 := hI2 94 35 rfl
  have c2_5 : ∀ k, w2.2.1 48 k = w1.2.1 48 k := fun k => hI2 48 k rfl
  have m2_5 : ∀ k, w2.2.1 123 k = w1.2.1 123 k := fun k => hI2 123 k rfl
  have c2_6 : ∀ k, w2.2.1 49 k = w1.2.1 49 k := fun k => hI2 49 k rfl
  have m2_6 : ∀ k, w2.2.1 124 k = w1.2.1 124 k := fun k => hI2 124 k rfl
  have y2_7_0 : ∀ k, w2.2.1 5 k = w1.2.1 5 k := fun k => hI2 5 k rfl
  have y2_7_1 : ∀ k, w2.2.1 98 k = w1.2.1 98 k := fun k => hI2 98 k rfl
  have y2_7_2 : ∀ k, w2.2.1 8 k = w1.2.1 8 k := fun k => hI2 8 k rfl
  have y2_7_3 : ∀ k, w2.2.1 102 k = w1.2.1 102 k := fun k => hI2 102 k rfl
  have y2_7_4 : w2.2.1 1 1 = w1.2.1 1 1 := hI2 1 1 rfl
  refine XW.fam (S' := (547, [(3, .int i), (2, .ref 94), (1, .ref 0), (0, .retAddr 0)], [], w2)) (M := mr_371) rfl (show mcode 371 546 = some (546, .pop, 1, 0, 0, 0, _) from rfl) (Or.inr (Or.inr (Or.inr (Or.inr (Or.inr (Or.inl ⟨_, rfl, rfl⟩)))))) ?_
  refine XW.fam (S' := (2217, [(3, .int i), (2, .ref 94), (1, .ref 0), (0, .retAddr 0)], [], w2)) (M := mr_371) rfl (show mcode 371 547 = some (547, .goto 1670, 3, 2217, 0, 0, _) from rfl) (Or.inr (Or.inl ⟨2217, [], rfl, rfl⟩)) ?_
  exact XW.wid (mc := mc) (ms := ms) (by omega) (by omega) (K w2 ⟨hf2, ⟨_, _, hw2⟩, ⟨(c2_0.trans c1_0).trans (hv.1.trans (m1_0.symm.trans m2_0.symm)), (c2_1.trans c1_1).trans (hv.2.1.trans (m1_1.symm.trans m2_1.symm)), (c2_2.trans c1_2).trans (hv.2.2.1.trans (m1_2.symm.trans m2_2.symm)), fun k => ((c2_3 k).trans (c1_3 k)).trans ((hv.2.2.2.1 k).trans ((m1_3 k).symm.trans (m2_3 k).symm)), (c2_4.trans c1_4).trans (hv.2.2.2.2.1.trans (m1_4.symm.trans m2_4.symm)), fun k => ((c2_5 k).trans (c1_5 k)).trans ((hv.2.2.2.2.2.1 k).trans ((m1_5 k).symm.trans (m2_5 k).symm)), fun k => ((c2_6 k).trans (c1_6 k)).trans ((hv.2.2.2.2.2.2.1 k).trans ((m1_6 k).symm.trans (m2_6 k).symm)), RLf_keep (fun k => (y2_7_0 k).trans (y1_7_0 k)) (fun k => (y2_7_1 k).trans (y1_7_1 k)) (fun k => (y2_7_2 k).trans (y1_7_2 k)) (fun k => (y2_7_3 k).trans (y1_7_3 k)) (y2_7_4.trans y1_7_4) hv.2.2.2.2.2.2.2⟩⟩)
set_option maxRecDepth 100000 in
theorem case_8 {Ln : Nat} {xs : Nat → Int32} {mc ms : Nat} {w : mW} {i : Int32} (hi0 : 0 ≤ i.toInt) (hi1 : i.toInt + 6 ≤ Ln) (hL : Ln ≤ 3072) (hV : IV w) (K : ∀ w', IV w' → XW 371 mr_371 (some (Ln, xs)) 91 mc ms Qone (2217, [(3, .int i), (2, .ref 94), (1, .ref 0), (0, .retAddr 0)], [], w')) : XW 371 mr_371 (some (Ln, xs)) 91 (mc + 1) (ms + 240) Qone (550, [(3, .int i), (2, .ref 94), (1, .ref 0), (0, .retAddr 0)], [], w) := by
  obtain ⟨hf, ⟨sh, R, hw⟩, hv⟩ := hV
  refine XW.fam (S' := (551, [(3, .int i), (2, .ref 94), (1, .ref 0), (0, .retAddr 0)], [.ref 0], w)) (M := mr_371) rfl (show mcode 371 550 = some (550, .aload_n 1, 1, 0, 0, 0, _) from rfl) (Or.inl ⟨.ref 0, rfl, rfl⟩) ?_
  refine lw_ld (pc := 551) (n := 1) rfl rfl rfl rfl rfl (by decide) hi0 hi1 hL ?_
  refine lw_ld (pc := 556) (n := 2) rfl rfl rfl rfl rfl (by decide) hi0 hi1 hL ?_
  refine lw_ld (pc := 561) (n := 3) rfl rfl rfl rfl rfl (by decide) hi0 hi1 hL ?_
  refine XW.call (d' := 42) (mc' := 0) (ms' := 0) (av := [.ref 0, .int (xs (i + Int32.ofInt 1).toNatClampNeg), .int (xs (i + Int32.ofInt 2).toNatClampNeg), .int (xs (i + Int32.ofInt 3).toNatClampNeg)]) (rest := []) (M := mr_371) (Ma := mr_51) rfl (show mcode 371 566 = some (566, .invokevirtual 48, 3, 51, 0, 0, _) from rfl) rfl (by decide) (by decide) ⟨rfl, 0, _, rfl, (iv_cell hw).1⟩ rfl rfl (show _ ≤ 8 by decide) (kk_20 [.ref 0, .int (xs (i + Int32.ofInt 1).toNatClampNeg), .int (xs (i + Int32.ofInt 2).toNatClampNeg), .int (xs (i + Int32.ofInt 3).toNatClampNeg)] w hw ⟨rfl, any32 _, any32 _, any32 _, trivial⟩ (fun q hq => by cases hq) hf) (by decide) (by omega) (by omega) (fun r1 w1 hQ1 => ?_)
  obtain ⟨hf1, hw1, hI1, ⟨x1, rfl, -, -⟩, -⟩ := hQ1
  have c1_0 : w1.2.1 1 1 = w.2.1 1 1 := hI1 1 1 rfl
  have m1_0 : w1.2.1 94 2 = w.2.1 94 2 := hI1 94 2 rfl
  have c1_1 : w1.2.1 1 0 = w.2.1 1 0 := hI1 1 0 rfl
  have m1_1 : w1.2.1 94 1 = w.2.1 94 1 := hI1 94 1 rfl
  have c1_2 : w1.2.1 41 0 = w.2.1 41 0 := hI1 41 0 rfl
  have m1_2 : w1.2.1 94 34 = w.2.1 94 34 := hI1 94 34 rfl
  have c1_3 : ∀ k, w1.2.1 42 k = w.2.1 42 k := fun k => hI1 42 k rfl
  have m1_3 : ∀ k, w1.2.1 122 k = w.2.1 122 k := fun k => hI1 122 k rfl
  have c1_4 : w1.2.1 47 3 = w.2.1 47 3 := hI1 47 3 rfl
  have m1_4 : w1.2.1 94 35 = w.2.1 94 35 := hI1 94 35 rfl
  have c1_5 : ∀ k, w1.2.1 48 k = w.2.1 48 k := fun k => hI1 48 k rfl
  have m1_5 : ∀ k, w1.2.1 123 k = w.2.1 123 k := fun k => hI1 123 k rfl
  have c1_6 : ∀ k, w1.2.1 49 k = w.2.1 49 k := fun k => hI1 49 k rfl
  have m1_6 : ∀ k, w1.2.1 124 k = w.2.1 124 k := fun k => hI1 124 k rfl
  have y1_7_0 : ∀ k, w1.2.1 5 k = w.2.1 5 k := fun k => hI1 5 k rfl
  have y1_7_1 : ∀ k, w1.2.1 98 k = w.2.1 98 k := fun k => hI1 98 k rfl
  have y1_7_2 : ∀ k, w1.2.1 8 k = w.2.1 8 k := fun k => hI1 8 k rfl
  have y1_7_3 : ∀ k, w1.2.1 102 k = w.2.1 102 k := fun k => hI1 102 k rfl
  have y1_7_4 : w1.2.1 1 1 = w.2.1 1 1 := hI1 1 1 rfl
  refine XW.fam (S' := (570, [(3, .int i), (2, .ref 94), (1, .ref 0), (0, .retAddr 0)], [], w1)) (M := mr_371) rfl (show mcode 371 569 = some (569, .pop, 1, 0, 0, 0, _) from rfl) (Or.inr (Or.inr (Or.inr (Or.inr (Or.inr (Or.inl ⟨_, rfl, rfl⟩)))))) ?_
  refine XW.fam (S' := (571, [(3, .int i), (2, .ref 94), (1, .ref 0), (0, .retAddr 0)], [.ref 94], w1)) (M := mr_371) rfl (show mcode 371 570 = some (570, .aload_n 2, 1, 0, 0, 0, _) from rfl) (Or.inl ⟨.ref 94, rfl, rfl⟩) ?_
  refine lw_ld (pc := 571) (n := 1) rfl rfl rfl rfl rfl (by decide) hi0 hi1 hL ?_
  refine lw_ld (pc := 576) (n := 2) rfl rfl rfl rfl rfl (by decide) hi0 hi1 hL ?_
  refine lw_ld (pc := 581) (n := 3) rfl rfl rfl rfl rfl (by decide) hi0 hi1 hL ?_
  refine XW.call (d' := 41) (mc' := 0) (ms' := 0) (av := [.ref 94, .int (xs (i + Int32.ofInt 1).toNatClampNeg), .int (xs (i + Int32.ofInt 2).toNatClampNeg), .int (xs (i + Int32.ofInt 3).toNatClampNeg)]) (rest := []) (M := mr_371) (Ma := mr_253) rfl (show mcode 371 586 = some (586, .invokevirtual 52, 3, 253, 0, 0, _) from rfl) rfl (by decide) (by decide) ⟨rfl, 94, _, rfl, (iv_cell hw1).2⟩ rfl rfl (show _ ≤ 8 by decide) (kk_237 [.ref 94, .int (xs (i + Int32.ofInt 1).toNatClampNeg), .int (xs (i + Int32.ofInt 2).toNatClampNeg), .int (xs (i + Int32.ofInt 3).toNatClampNeg)] w1 hw1 ⟨rfl, any32 _, any32 _, any32 _, trivial⟩ (fun q hq => by cases hq) hf1) (by decide) (by omega) (by omega) (fun r2 w2 hQ2 => ?_)
  obtain ⟨hf2, hw2, hI2, ⟨x2, rfl, -, -⟩, -⟩ := hQ2
  have c2_0 : w2.2.1 1 1 = w1.2.1 1 1 := hI2 1 1 rfl
  have m2_0 : w2.2.1 94 2 = w1.2.1 94 2 := hI2 94 2 rfl
  have c2_1 : w2.2.1 1 0 = w1.2.1 1 0 := hI2 1 0 rfl
  have m2_1 : w2.2.1 94 1 = w1.2.1 94 1 := hI2 94 1 rfl
  have c2_2 : w2.2.1 41 0 = w1.2.1 41 0 := hI2 41 0 rfl
  have m2_2 : w2.2.1 94 34 = w1.2.1 94 34 := hI2 94 34 rfl
  have c2_3 : ∀ k, w2.2.1 42 k = w1.2.1 42 k := fun k => hI2 42 k rfl
  have m2_3 : ∀ k, w2.2.1 122 k = w1.2.1 122 k := fun k => hI2 122 k rfl
  have c2_4 : w2.2.1 47 3 = w1.2.1 47 3 := hI2 47 3 rfl
  have m2_4 : w2.2.1 94 35 = w1.2.1 94 35 := hI2 94 35 rfl
  have c2_5 : ∀ k, w2.2.1 48 k = w1.2.1 48 k := fun k => hI2 48 k rfl
  have m2_5 : ∀ k, w2.2.1 123 k = w1.2.1 123 k := fun k => hI2 123 k rfl
  have c2_6 : ∀ k, w2.2.1 49 k = w1.2.1 49 k := fun k => hI2 49 k rfl
  have m2_6 : ∀ k, w2.2.1 124 k = w1.2.1 124 k := fun k => hI2 124 k rfl
  have y2_7_0 : ∀ k, w2.2.1 5 k = w1.2.1 5 k := fun k => hI2 5 k rfl
  have y2_7_1 : ∀ k, w2.2.1 98 k = w1.2.1 98 k := fun k => hI2 98 k rfl
  have y2_7_2 : ∀ k, w2.2.1 8 k = w1.2.1 8 k := fun k => hI2 8 k rfl
  have y2_7_3 : ∀ k, w2.2.1 102 k = w1.2.1 102 k := fun k => hI2 102 k rfl
  have y2_7_4 : w2.2.1 1 1 = w1.2.1 1 1 := hI2 1 1 rfl
  refine XW.fam (S' := (590, [(3, .int i), (2, .ref 94), (1, .ref 0), (0, .retAddr 0)], [], w2)) (M := mr_371) rfl (show mcode 371 589 = some (589, .pop, 1, 0, 0, 0, _) from rfl) (Or.inr (Or.inr (Or.inr (Or.inr (Or.inr (Or.inl ⟨_, rfl, rfl⟩)))))) ?_
  refine XW.fam (S' := (2217, [(3, .int i), (2, .ref 94), (1, .ref 0), (0, .retAddr 0)], [], w2)) (M := mr_371) rfl (show mcode 371 590 = some (590, .goto 1627, 3, 2217, 0, 0, _) from rfl) (Or.inr (Or.inl ⟨2217, [], rfl, rfl⟩)) ?_
  exact XW.wid (mc := mc) (ms := ms) (by omega) (by omega) (K w2 ⟨hf2, ⟨_, _, hw2⟩, ⟨(c2_0.trans c1_0).trans (hv.1.trans (m1_0.symm.trans m2_0.symm)), (c2_1.trans c1_1).trans (hv.2.1.trans (m1_1.symm.trans m2_1.symm)), (c2_2.trans c1_2).trans (hv.2.2.1.trans (m1_2.symm.trans m2_2.symm)), fun k => ((c2_3 k).trans (c1_3 k)).trans ((hv.2.2.2.1 k).trans ((m1_3 k).symm.trans (m2_3 k).symm)), (c2_4.trans c1_4).trans (hv.2.2.2.2.1.trans (m1_4.symm.trans m2_4.symm)), fun k => ((c2_5 k).trans (c1_5 k)).trans ((hv.2.2.2.2.2.1 k).trans ((m1_5 k).symm.trans (m2_5 k).symm)), fun k => ((c2_6 k).trans (c1_6 k)).trans ((hv.2.2.2.2.2.2.1 k).trans ((m1_6 k).symm.trans (m2_6 k).symm)), RLf_keep (fun k => (y2_7_0 k).trans (y1_7_0 k)) (fun k => (y2_7_1 k).trans (y1_7_1 k)) (fun k => (y2_7_2 k).trans (y1_7_2 k)) (fun k => (y2_7_3 k).trans (y1_7_3 k)) (y2_7_4.trans y1_7_4) hv.2.2.2.2.2.2.2⟩⟩)
set_option maxRecDepth 100000 in
theorem case_9 {Ln : Nat} {xs : Nat → Int32} {mc ms : Nat} {w : mW} {i : Int32} (hi0 : 0 ≤ i.toInt) (hi1 : i.toInt + 6 ≤ Ln) (hL : Ln ≤ 3072) (hV : IV w) (K : ∀ w', IV w' → XW 371 mr_371 (some (Ln, xs)) 91 mc ms Qone (2217, [(3, .int i), (2, .ref 94), (1, .ref 0), (0, .retAddr 0)], [], w')) : XW 371 mr_371 (some (Ln, xs)) 91 (mc + 1) (ms + 240) Qone (593, [(3, .int i), (2, .ref 94), (1, .ref 0), (0, .retAddr 0)], [], w) := by
  obtain ⟨hf, ⟨sh, R, hw⟩, hv⟩ := hV
  refine XW.fam (S' := (594, [(3, .int i), (2, .ref 94), (1, .ref 0), (0, .retAddr 0)], [.ref 0], w)) (M := mr_371) rfl (show mcode 371 593 = some (593, .aload_n 1, 1, 0, 0, 0, _) from rfl) (Or.inl ⟨.ref 0, rfl, rfl⟩) ?_
  refine lw_ld (pc := 594) (n := 1) rfl rfl rfl rfl rfl (by decide) hi0 hi1 hL ?_
  refine lw_ld (pc := 599) (n := 2) rfl rfl rfl rfl rfl (by decide) hi0 hi1 hL ?_
  refine XW.call (d' := 41) (mc' := 0) (ms' := 0) (av := [.ref 0, .int (xs (i + Int32.ofInt 1).toNatClampNeg), .int (xs (i + Int32.ofInt 2).toNatClampNeg)]) (rest := []) (M := mr_371) (Ma := mr_53) rfl (show mcode 371 604 = some (604, .invokevirtual 53, 3, 53, 0, 0, _) from rfl) rfl (by decide) (by decide) ⟨rfl, 0, _, rfl, (iv_cell hw).1⟩ rfl rfl (show _ ≤ 8 by decide) (kk_21 [.ref 0, .int (xs (i + Int32.ofInt 1).toNatClampNeg), .int (xs (i + Int32.ofInt 2).toNatClampNeg)] w hw ⟨rfl, any32 _, any32 _, trivial⟩ (fun q hq => by cases hq) hf) (by decide) (by omega) (by omega) (fun r1 w1 hQ1 => ?_)
  obtain ⟨hf1, hw1, hI1, ⟨x1, rfl, -, -⟩, -⟩ := hQ1
  have c1_0 : w1.2.1 1 1 = w.2.1 1 1 := hI1 1 1 rfl
  have m1_0 : w1.2.1 94 2 = w.2.1 94 2 := hI1 94 2 rfl
  have c1_1 : w1.2.1 1 0 = w.2.1 1 0 := hI1 1 0 rfl
  have m1_1 : w1.2.1 94 1 = w.2.1 94 1 := hI1 94 1 rfl
  have c1_2 : w1.2.1 41 0 = w.2.1 41 0 := hI1 41 0 rfl
  have m1_2 : w1.2.1 94 34 = w.2.1 94 34 := hI1 94 34 rfl
  have c1_3 : ∀ k, w1.2.1 42 k = w.2.1 42 k := fun k => hI1 42 k rfl
  have m1_3 : ∀ k, w1.2.1 122 k = w.2.1 122 k := fun k => hI1 122 k rfl
  have c1_4 : w1.2.1 47 3 = w.2.1 47 3 := hI1 47 3 rfl
  have m1_4 : w1.2.1 94 35 = w.2.1 94 35 := hI1 94 35 rfl
  have c1_5 : ∀ k, w1.2.1 48 k = w.2.1 48 k := fun k => hI1 48 k rfl
  have m1_5 : ∀ k, w1.2.1 123 k = w.2.1 123 k := fun k => hI1 123 k rfl
  have c1_6 : ∀ k, w1.2.1 49 k = w.2.1 49 k := fun k => hI1 49 k rfl
  have m1_6 : ∀ k, w1.2.1 124 k = w.2.1 124 k := fun k => hI1 124 k rfl
  have y1_7_0 : ∀ k, w1.2.1 5 k = w.2.1 5 k := fun k => hI1 5 k rfl
  have y1_7_1 : ∀ k, w1.2.1 98 k = w.2.1 98 k := fun k => hI1 98 k rfl
  have y1_7_2 : ∀ k, w1.2.1 8 k = w.2.1 8 k := fun k => hI1 8 k rfl
  have y1_7_3 : ∀ k, w1.2.1 102 k = w.2.1 102 k := fun k => hI1 102 k rfl
  have y1_7_4 : w1.2.1 1 1 = w.2.1 1 1 := hI1 1 1 rfl
  refine XW.fam (S' := (608, [(3, .int i), (2, .ref 94), (1, .ref 0), (0, .retAddr 0)], [], w1)) (M := mr_371) rfl (show mcode 371 607 = some (607, .pop, 1, 0, 0, 0, _) from rfl) (Or.inr (Or.inr (Or.inr (Or.inr (Or.inr (Or.inl ⟨_, rfl, rfl⟩)))))) ?_
  refine XW.fam (S' := (609, [(3, .int i), (2, .ref 94), (1, .ref 0), (0, .retAddr 0)], [.ref 94], w1)) (M := mr_371) rfl (show mcode 371 608 = some (608, .aload_n 2, 1, 0, 0, 0, _) from rfl) (Or.inl ⟨.ref 94, rfl, rfl⟩) ?_
  refine lw_ld (pc := 609) (n := 1) rfl rfl rfl rfl rfl (by decide) hi0 hi1 hL ?_
  refine lw_ld (pc := 614) (n := 2) rfl rfl rfl rfl rfl (by decide) hi0 hi1 hL ?_
  refine XW.call (d' := 41) (mc' := 0) (ms' := 0) (av := [.ref 94, .int (xs (i + Int32.ofInt 1).toNatClampNeg), .int (xs (i + Int32.ofInt 2).toNatClampNeg)]) (rest := []) (M := mr_371) (Ma := mr_255) rfl (show mcode 371 619 = some (619, .invokevirtual 56, 3, 255, 0, 0, _) from rfl) rfl (by decide) (by decide) ⟨rfl, 94, _, rfl, (iv_cell hw1).2⟩ rfl rfl (show _ ≤ 8 by decide) (kk_238 [.ref 94, .int (xs (i + Int32.ofInt 1).toNatClampNeg), .int (xs (i + Int32.ofInt 2).toNatClampNeg)] w1 hw1 ⟨rfl, any32 _, any32 _, trivial⟩ (fun q hq => by cases hq) hf1) (by decide) (by omega) (by omega) (fun r2 w2 hQ2 => ?_)
  obtain ⟨hf2, hw2, hI2, ⟨x2, rfl, -, -⟩, -⟩ := hQ2
  have c2_0 : w2.2.1 1 1 = w1.2.1 1 1 := hI2 1 1 rfl
  have m2_0 : w2.2.1 94 2 = w1.2.1 94 2 := hI2 94 2 rfl
  have c2_1 : w2.2.1 1 0 = w1.2.1 1 0 := hI2 1 0 rfl
  have m2_1 : w2.2.1 94 1 = w1.2.1 94 1 := hI2 94 1 rfl
  have c2_2 : w2.2.1 41 0 = w1.2.1 41 0 := hI2 41 0 rfl
  have m2_2 : w2.2.1 94 34 = w1.2.1 94 34 := hI2 94 34 rfl
  have c2_3 : ∀ k, w2.2.1 42 k = w1.2.1 42 k := fun k => hI2 42 k rfl
  have m2_3 : ∀ k, w2.2.1 122 k = w1.2.1 122 k := fun k => hI2 122 k rfl
  have c2_4 : w2.2.1 47 3 = w1.2.1 47 3 := hI2 47 3 rfl
  have m2_4 : w2.2.1 94 35 = w1.2.1 94 35 := hI2 94 35 rfl
  have c2_5 : ∀ k, w2.2.1 48 k = w1.2.1 48 k := fun k => hI2 48 k rfl
  have m2_5 : ∀ k, w2.2.1 123 k = w1.2.1 123 k := fun k => hI2 123 k rfl
  have c2_6 : ∀ k, w2.2.1 49 k = w1.2.1 49 k := fun k => hI2 49 k rfl
  have m2_6 : ∀ k, w2.2.1 124 k = w1.2.1 124 k := fun k => hI2 124 k rfl
  have y2_7_0 : ∀ k, w2.2.1 5 k = w1.2.1 5 k := fun k => hI2 5 k rfl
  have y2_7_1 : ∀ k, w2.2.1 98 k = w1.2.1 98 k := fun k => hI2 98 k rfl
  have y2_7_2 : ∀ k, w2.2.1 8 k = w1.2.1 8 k := fun k => hI2 8 k rfl
  have y2_7_3 : ∀ k, w2.2.1 102 k = w1.2.1 102 k := fun k => hI2 102 k rfl
  have y2_7_4 : w2.2.1 1 1 = w1.2.1 1 1 := hI2 1 1 rfl
  refine XW.fam (S' := (623, [(3, .int i), (2, .ref 94), (1, .ref 0), (0, .retAddr 0)], [], w2)) (M := mr_371) rfl (show mcode 371 622 = some (622, .pop, 1, 0, 0, 0, _) from rfl) (Or.inr (Or.inr (Or.inr (Or.inr (Or.inr (Or.inl ⟨_, rfl, rfl⟩)))))) ?_
  refine XW.fam (S' := (2217, [(3, .int i), (2, .ref 94), (1, .ref 0), (0, .retAddr 0)], [], w2)) (M := mr_371) rfl (show mcode 371 623 = some (623, .goto 1594, 3, 2217, 0, 0, _) from rfl) (Or.inr (Or.inl ⟨2217, [], rfl, rfl⟩)) ?_
  exact XW.wid (mc := mc) (ms := ms) (by omega) (by omega) (K w2 ⟨hf2, ⟨_, _, hw2⟩, ⟨(c2_0.trans c1_0).trans (hv.1.trans (m1_0.symm.trans m2_0.symm)), (c2_1.trans c1_1).trans (hv.2.1.trans (m1_1.symm.trans m2_1.symm)), (c2_2.trans c1_2).trans (hv.2.2.1.trans (m1_2.symm.trans m2_2.symm)), fun k => ((c2_3 k).trans (c1_3 k)).trans ((hv.2.2.2.1 k).trans ((m1_3 k).symm.trans (m2_3 k).symm)), (c2_4.trans c1_4).trans (hv.2.2.2.2.1.trans (m1_4.symm.trans m2_4.symm)), fun k => ((c2_5 k).trans (c1_5 k)).trans ((hv.2.2.2.2.2.1 k).trans ((m1_5 k).symm.trans (m2_5 k).symm)), fun k => ((c2_6 k).trans (c1_6 k)).trans ((hv.2.2.2.2.2.2.1 k).trans ((m1_6 k).symm.trans (m2_6 k).symm)), RLf_keep (fun k => (y2_7_0 k).trans (y1_7_0 k)) (fun k => (y2_7_1 k).trans (y1_7_1 k)) (fun k => (y2_7_2 k).trans (y1_7_2 k)) (fun k => (y2_7_3 k).trans (y1_7_3 k)) (y2_7_4.trans y1_7_4) hv.2.2.2.2.2.2.2⟩⟩)
set_option maxRecDepth 100000 in
theorem case_10 {Ln : Nat} {xs : Nat → Int32} {mc ms : Nat} {w : mW} {i : Int32} (hi0 : 0 ≤ i.toInt) (hi1 : i.toInt + 6 ≤ Ln) (hL : Ln ≤ 3072) (hV : IV w) (K : ∀ w', IV w' → XW 371 mr_371 (some (Ln, xs)) 91 mc ms Qone (2217, [(3, .int i), (2, .ref 94), (1, .ref 0), (0, .retAddr 0)], [], w')) : XW 371 mr_371 (some (Ln, xs)) 91 (mc + 1) (ms + 240) Qone (626, [(3, .int i), (2, .ref 94), (1, .ref 0), (0, .retAddr 0)], [], w) := by
  obtain ⟨hf, ⟨sh, R, hw⟩, hv⟩ := hV
  refine XW.fam (S' := (627, [(3, .int i), (2, .ref 94), (1, .ref 0), (0, .retAddr 0)], [.ref 0], w)) (M := mr_371) rfl (show mcode 371 626 = some (626, .aload_n 1, 1, 0, 0, 0, _) from rfl) (Or.inl ⟨.ref 0, rfl, rfl⟩) ?_
  refine lw_ld (pc := 627) (n := 1) rfl rfl rfl rfl rfl (by decide) hi0 hi1 hL ?_
  refine lw_ld (pc := 632) (n := 2) rfl rfl rfl rfl rfl (by decide) hi0 hi1 hL ?_
  refine XW.call (d' := 41) (mc' := 0) (ms' := 0) (av := [.ref 0, .int (xs (i + Int32.ofInt 1).toNatClampNeg), .int (xs (i + Int32.ofInt 2).toNatClampNeg)]) (rest := []) (M := mr_371) (Ma := mr_55) rfl (show mcode 371 637 = some (637, .invokevirtual 57, 3, 55, 0, 0, _) from rfl) rfl (by decide) (by decide) ⟨rfl, 0, _, rfl, (iv_cell hw).1⟩ rfl rfl (show _ ≤ 8 by decide) (kk_22 [.ref 0, .int (xs (i + Int32.ofInt 1).toNatClampNeg), .int (xs (i + Int32.ofInt 2).toNatClampNeg)] w hw ⟨rfl, any32 _, any32 _, trivial⟩ (fun q hq => by cases hq) hf) (by decide) (by omega) (by omega) (fun r1 w1 hQ1 => ?_)
  obtain ⟨hf1, hw1, hI1, ⟨x1, rfl, -, -⟩, -⟩ := hQ1
  have c1_0 : w1.2.1 1 1 = w.2.1 1 1 := hI1 1 1 rfl
  have m1_0 : w1.2.1 94 2 = w.2.1 94 2 := hI1 94 2 rfl
  have c1_1 : w1.2.1 1 0 = w.2.1 1 0 := hI1 1 0 rfl
  have m1_1 : w1.2.1 94 1 = w.2.1 94 1 := hI1 94 1 rfl
  have c1_2 : w1.2.1 41 0 = w.2.1 41 0 := hI1 41 0 rfl
  have m1_2 : w1.2.1 94 34 = w.2.1 94 34 := hI1 94 34 rfl
  have c1_3 : ∀ k, w1.2.1 42 k = w.2.1 42 k := fun k => hI1 42 k rfl
  have m1_3 : ∀ k, w1.2.1 122 k = w.2.1 122 k := fun k => hI1 122 k rfl
  have c1_4 : w1.2.1 47 3 = w.2.1 47 3 := hI1 47 3 rfl
  have m1_4 : w1.2.1 94 35 = w.2.1 94 35 := hI1 94 35 rfl
  have c1_5 : ∀ k, w1.2.1 48 k = w.2.1 48 k := fun k => hI1 48 k rfl
  have m1_5 : ∀ k, w1.2.1 123 k = w.2.1 123 k := fun k => hI1 123 k rfl
  have c1_6 : ∀ k, w1.2.1 49 k = w.2.1 49 k := fun k => hI1 49 k rfl
  have m1_6 : ∀ k, w1.2.1 124 k = w.2.1 124 k := fun k => hI1 124 k rfl
  have y1_7_0 : ∀ k, w1.2.1 5 k = w.2.1 5 k := fun k => hI1 5 k rfl
  have y1_7_1 : ∀ k, w1.2.1 98 k = w.2.1 98 k := fun k => hI1 98 k rfl
  have y1_7_2 : ∀ k, w1.2.1 8 k = w.2.1 8 k := fun k => hI1 8 k rfl
  have y1_7_3 : ∀ k, w1.2.1 102 k = w.2.1 102 k := fun k => hI1 102 k rfl
  have y1_7_4 : w1.2.1 1 1 = w.2.1 1 1 := hI1 1 1 rfl
  refine XW.fam (S' := (641, [(3, .int i), (2, .ref 94), (1, .ref 0), (0, .retAddr 0)], [], w1)) (M := mr_371) rfl (show mcode 371 640 = some (640, .pop, 1, 0, 0, 0, _) from rfl) (Or.inr (Or.inr (Or.inr (Or.inr (Or.inr (Or.inl ⟨_, rfl, rfl⟩)))))) ?_
  refine XW.fam (S' := (642, [(3, .int i), (2, .ref 94), (1, .ref 0), (0, .retAddr 0)], [.ref 94], w1)) (M := mr_371) rfl (show mcode 371 641 = some (641, .aload_n 2, 1, 0, 0, 0, _) from rfl) (Or.inl ⟨.ref 94, rfl, rfl⟩) ?_
  refine lw_ld (pc := 642) (n := 1) rfl rfl rfl rfl rfl (by decide) hi0 hi1 hL ?_
  refine lw_ld (pc := 647) (n := 2) rfl rfl rfl rfl rfl (by decide) hi0 hi1 hL ?_
  refine XW.call (d' := 41) (mc' := 0) (ms' := 0) (av := [.ref 94, .int (xs (i + Int32.ofInt 1).toNatClampNeg), .int (xs (i + Int32.ofInt 2).toNatClampNeg)]) (rest := []) (M := mr_371) (Ma := mr_256) rfl (show mcode 371 652 = some (652, .invokevirtual 60, 3, 256, 0, 0, _) from rfl) rfl (by decide) (by decide) ⟨rfl, 94, _, rfl, (iv_cell hw1).2⟩ rfl rfl (show _ ≤ 8 by decide) (kk_239 [.ref 94, .int (xs (i + Int32.ofInt 1).toNatClampNeg), .int (xs (i + Int32.ofInt 2).toNatClampNeg)] w1 hw1 ⟨rfl, any32 _, any32 _, trivial⟩ (fun q hq => by cases hq) hf1) (by decide) (by omega) (by omega) (fun r2 w2 hQ2 => ?_)
  obtain ⟨hf2, hw2, hI2, ⟨x2, rfl, -, -⟩, -⟩ := hQ2
  have c2_0 : w2.2.1 1 1 = w1.2.1 1 1 := hI2 1 1 rfl
  have m2_0 : w2.2.1 94 2 = w1.2.1 94 2 := hI2 94 2 rfl
  have c2_1 : w2.2.1 1 0 = w1.2.1 1 0 := hI2 1 0 rfl
  have m2_1 : w2.2.1 94 1 = w1.2.1 94 1 := hI2 94 1 rfl
  have c2_2 : w2.2.1 41 0 = w1.2.1 41 0 := hI2 41 0 rfl
  have m2_2 : w2.2.1 94 34 = w1.2.1 94 34 := hI2 94 34 rfl
  have c2_3 : ∀ k, w2.2.1 42 k = w1.2.1 42 k := fun k => hI2 42 k rfl
  have m2_3 : ∀ k, w2.2.1 122 k = w1.2.1 122 k := fun k => hI2 122 k rfl
  have c2_4 : w2.2.1 47 3 = w1.2.1 47 3 := hI2 47 3 rfl
  have m2_4 : w2.2.1 94 35 = w1.2.1 94 35 := hI2 94 35 rfl
  have c2_5 : ∀ k, w2.2.1 48 k = w1.2.1 48 k := fun k => hI2 48 k rfl
  have m2_5 : ∀ k, w2.2.1 123 k = w1.2.1 123 k := fun k => hI2 123 k rfl
  have c2_6 : ∀ k, w2.2.1 49 k = w1.2.1 49 k := fun k => hI2 49 k rfl
  have m2_6 : ∀ k, w2.2.1 124 k = w1.2.1 124 k := fun k => hI2 124 k rfl
  have y2_7_0 : ∀ k, w2.2.1 5 k = w1.2.1 5 k := fun k => hI2 5 k rfl
  have y2_7_1 : ∀ k, w2.2.1 98 k = w1.2.1 98 k := fun k => hI2 98 k rfl
  have y2_7_2 : ∀ k, w2.2.1 8 k = w1.2.1 8 k := fun k => hI2 8 k rfl
  have y2_7_3 : ∀ k, w2.2.1 102 k = w1.2.1 102 k := fun k => hI2 102 k rfl
  have y2_7_4 : w2.2.1 1 1 = w1.2.1 1 1 := hI2 1 1 rfl
  refine XW.fam (S' := (656, [(3, .int i), (2, .ref 94), (1, .ref 0), (0, .retAddr 0)], [], w2)) (M := mr_371) rfl (show mcode 371 655 = some (655, .pop, 1, 0, 0, 0, _) from rfl) (Or.inr (Or.inr (Or.inr (Or.inr (Or.inr (Or.inl ⟨_, rfl, rfl⟩)))))) ?_
  refine XW.fam (S' := (2217, [(3, .int i), (2, .ref 94), (1, .ref 0), (0, .retAddr 0)], [], w2)) (M := mr_371) rfl (show mcode 371 656 = some (656, .goto 1561, 3, 2217, 0, 0, _) from rfl) (Or.inr (Or.inl ⟨2217, [], rfl, rfl⟩)) ?_
  exact XW.wid (mc := mc) (ms := ms) (by omega) (by omega) (K w2 ⟨hf2, ⟨_, _, hw2⟩, ⟨(c2_0.trans c1_0).trans (hv.1.trans (m1_0.symm.trans m2_0.symm)), (c2_1.trans c1_1).trans (hv.2.1.trans (m1_1.symm.trans m2_1.symm)), (c2_2.trans c1_2).trans (hv.2.2.1.trans (m1_2.symm.trans m2_2.symm)), fun k => ((c2_3 k).trans (c1_3 k)).trans ((hv.2.2.2.1 k).trans ((m1_3 k).symm.trans (m2_3 k).symm)), (c2_4.trans c1_4).trans (hv.2.2.2.2.1.trans (m1_4.symm.trans m2_4.symm)), fun k => ((c2_5 k).trans (c1_5 k)).trans ((hv.2.2.2.2.2.1 k).trans ((m1_5 k).symm.trans (m2_5 k).symm)), fun k => ((c2_6 k).trans (c1_6 k)).trans ((hv.2.2.2.2.2.2.1 k).trans ((m1_6 k).symm.trans (m2_6 k).symm)), RLf_keep (fun k => (y2_7_0 k).trans (y1_7_0 k)) (fun k => (y2_7_1 k).trans (y1_7_1 k)) (fun k => (y2_7_2 k).trans (y1_7_2 k)) (fun k => (y2_7_3 k).trans (y1_7_3 k)) (y2_7_4.trans y1_7_4) hv.2.2.2.2.2.2.2⟩⟩)
set_option maxRecDepth 100000 in
theorem case_11 {Ln : Nat} {xs : Nat → Int32} {mc ms : Nat} {w : mW} {i : Int32} (hi0 : 0 ≤ i.toInt) (hi1 : i.toInt + 6 ≤ Ln) (hL : Ln ≤ 3072) (hV : IV w) (K : ∀ w', IV w' → XW 371 mr_371 (some (Ln, xs)) 91 mc ms Qone (2217, [(3, .int i), (2, .ref 94), (1, .ref 0), (0, .retAddr 0)], [], w')) : XW 371 mr_371 (some (Ln, xs)) 91 (mc + 1) (ms + 240) Qone (659, [(3, .int i), (2, .ref 94), (1, .ref 0), (0, .retAddr 0)], [], w) := by
  obtain ⟨hf, ⟨sh, R, hw⟩, hv⟩ := hV
  refine XW.fam (S' := (660, [(3, .int i), (2, .ref 94), (1, .ref 0), (0, .retAddr 0)], [.ref 0], w)) (M := mr_371) rfl (show mcode 371 659 = some (659, .aload_n 1, 1, 0, 0, 0, _) from rfl) (Or.inl ⟨.ref 0, rfl, rfl⟩) ?_
  refine lw_ld (pc := 660) (n := 1) rfl rfl rfl rfl rfl (by decide) hi0 hi1 hL ?_
  refine lw_ld (pc := 665) (n := 2) rfl rfl rfl rfl rfl (by decide) hi0 hi1 hL ?_
  refine XW.call (d' := 41) (mc' := 0) (ms' := 0) (av := [.ref 0, .int (xs (i + Int32.ofInt 1).toNatClampNeg), .int (xs (i + Int32.ofInt 2).toNatClampNeg)]) (rest := []) (M := mr_371) (Ma := mr_58) rfl (show mcode 371 670 = some (670, .invokevirtual 61, 3, 58, 0, 0, _) from rfl) rfl (by decide) (by decide) ⟨rfl, 0, _, rfl, (iv_cell hw).1⟩ rfl rfl (show _ ≤ 8 by decide) (kk_23 [.ref 0, .int (xs (i + Int32.ofInt 1).toNatClampNeg), .int (xs (i + Int32.ofInt 2).toNatClampNeg)] w hw ⟨rfl, any32 _, any32 _, trivial⟩ (fun q hq => by cases hq) hf) (by decide) (by omega) (by omega) (fun r1 w1 hQ1 => ?_)
  obtain ⟨hf1, hw1, hI1, ⟨x1, rfl, -, -⟩, -⟩ := hQ1
  have c1_0 : w1.2.1 1 1 = w.2.1 1 1 := hI1 1 1 rfl
  have m1_0 : w1.2.1 94 2 = w.2.1 94 2 := hI1 94 2 rfl
  have c1_1 : w1.2.1 1 0 = w.2.1 1 0 := hI1 1 0 rfl
  have m1_1 : w1.2.1 94 1 = w.2.1 94 1 := hI1 94 1 rfl
  have c1_2 : w1.2.1 41 0 = w.2.1 41 0 := hI1 41 0 rfl
  have m1_2 : w1.2.1 94 34 = w.2.1 94 34 := hI1 94 34 rfl
  have c1_3 : ∀ k, w1.2.1 42 k = w.2.1 42 k := fun k => hI1 42 k rfl
  have m1_3 : ∀ k, w1.2.1 122 k = w.2.1 122 k := fun k => hI1 122 k rfl
  have c1_4 : w1.2.1 47 3 = w.2.1 47 3 := hI1 47 3 rfl
  have m1_4 : w1.2.1 94 35 = w.2.1 94 35 := hI1 94 35 rfl
  have c1_5 : ∀ k, w1.2.1 48 k = w.2.1 48 k := fun k => hI1 48 k rfl
  have m1_5 : ∀ k, w1.2.1 123 k = w.2.1 123 k := fun k => hI1 123 k rfl
  have c1_6 : ∀ k, w1.2.1 49 k = w.2.1 49 k := fun k => hI1 49 k rfl
  have m1_6 : ∀ k, w1.2.1 124 k = w.2.1 124 k := fun k => hI1 124 k rfl
  have y1_7_0 : ∀ k, w1.2.1 5 k = w.2.1 5 k := fun k => hI1 5 k rfl
  have y1_7_1 : ∀ k, w1.2.1 98 k = w.2.1 98 k := fun k => hI1 98 k rfl
  have y1_7_2 : ∀ k, w1.2.1 8 k = w.2.1 8 k := fun k => hI1 8 k rfl
  have y1_7_3 : ∀ k, w1.2.1 102 k = w.2.1 102 k := fun k => hI1 102 k rfl
  have y1_7_4 : w1.2.1 1 1 = w.2.1 1 1 := hI1 1 1 rfl
  refine XW.fam (S' := (674, [(3, .int i), (2, .ref 94), (1, .ref 0), (0, .retAddr 0)], [], w1)) (M := mr_371) rfl (show mcode 371 673 = some (673, .pop, 1, 0, 0, 0, _) from rfl) (Or.inr (Or.inr (Or.inr (Or.inr (Or.inr (Or.inl ⟨_, rfl, rfl⟩)))))) ?_
  refine XW.fam (S' := (675, [(3, .int i), (2, .ref 94), (1, .ref 0), (0, .retAddr 0)], [.ref 94], w1)) (M := mr_371) rfl (show mcode 371 674 = some (674, .aload_n 2, 1, 0, 0, 0, _) from rfl) (Or.inl ⟨.ref 94, rfl, rfl⟩) ?_
  refine lw_ld (pc := 675) (n := 1) rfl rfl rfl rfl rfl (by decide) hi0 hi1 hL ?_
  refine lw_ld (pc := 680) (n := 2) rfl rfl rfl rfl rfl (by decide) hi0 hi1 hL ?_
  refine XW.call (d' := 41) (mc' := 0) (ms' := 0) (av := [.ref 94, .int (xs (i + Int32.ofInt 1).toNatClampNeg), .int (xs (i + Int32.ofInt 2).toNatClampNeg)]) (rest := []) (M := mr_371) (Ma := mr_257) rfl (show mcode 371 685 = some (685, .invokevirtual 64, 3, 257, 0, 0, _) from rfl) rfl (by decide) (by decide) ⟨rfl, 94, _, rfl, (iv_cell hw1).2⟩ rfl rfl (show _ ≤ 8 by decide) (kk_240 [.ref 94, .int (xs (i + Int32.ofInt 1).toNatClampNeg), .int (xs (i + Int32.ofInt 2).toNatClampNeg)] w1 hw1 ⟨rfl, any32 _, any32 _, trivial⟩ (fun q hq => by cases hq) hf1) (by decide) (by omega) (by omega) (fun r2 w2 hQ2 => ?_)
  obtain ⟨hf2, hw2, hI2, ⟨x2, rfl, -, -⟩, -⟩ := hQ2
  have c2_0 : w2.2.1 1 1 = w1.2.1 1 1 := hI2 1 1 rfl
  have m2_0 : w2.2.1 94 2 = w1.2.1 94 2 := hI2 94 2 rfl
  have c2_1 : w2.2.1 1 0 = w1.2.1 1 0 := hI2 1 0 rfl
  have m2_1 : w2.2.1 94 1 = w1.2.1 94 1 := hI2 94 1 rfl
  have c2_2 : w2.2.1 41 0 = w1.2.1 41 0 := hI2 41 0 rfl
  have m2_2 : w2.2.1 94 34 = w1.2.1 94 34 := hI2 94 34 rfl
  have c2_3 : ∀ k, w2.2.1 42 k = w1.2.1 42 k := fun k => hI2 42 k rfl
  have m2_3 : ∀ k, w2.2.1 122 k = w1.2.1 122 k := fun k => hI2 122 k rfl
  have c2_4 : w2.2.1 47 3 = w1.2.1 47 3 := hI2 47 3 rfl
  have m2_4 : w2.2.1 94 35 = w1.2.1 94 35 := hI2 94 35 rfl
  have c2_5 : ∀ k, w2.2.1 48 k = w1.2.1 48 k := fun k => hI2 48 k rfl
  have m2_5 : ∀ k, w2.2.1 123 k = w1.2.1 123 k := fun k => hI2 123 k rfl
  have c2_6 : ∀ k, w2.2.1 49 k = w1.2.1 49 k := fun k => hI2 49 k rfl
  have m2_6 : ∀ k, w2.2.1 124 k = w1.2.1 124 k := fun k => hI2 124 k rfl
  have y2_7_0 : ∀ k, w2.2.1 5 k = w1.2.1 5 k := fun k => hI2 5 k rfl
  have y2_7_1 : ∀ k, w2.2.1 98 k = w1.2.1 98 k := fun k => hI2 98 k rfl
  have y2_7_2 : ∀ k, w2.2.1 8 k = w1.2.1 8 k := fun k => hI2 8 k rfl
  have y2_7_3 : ∀ k, w2.2.1 102 k = w1.2.1 102 k := fun k => hI2 102 k rfl
  have y2_7_4 : w2.2.1 1 1 = w1.2.1 1 1 := hI2 1 1 rfl
  refine XW.fam (S' := (689, [(3, .int i), (2, .ref 94), (1, .ref 0), (0, .retAddr 0)], [], w2)) (M := mr_371) rfl (show mcode 371 688 = some (688, .pop, 1, 0, 0, 0, _) from rfl) (Or.inr (Or.inr (Or.inr (Or.inr (Or.inr (Or.inl ⟨_, rfl, rfl⟩)))))) ?_
  refine XW.fam (S' := (2217, [(3, .int i), (2, .ref 94), (1, .ref 0), (0, .retAddr 0)], [], w2)) (M := mr_371) rfl (show mcode 371 689 = some (689, .goto 1528, 3, 2217, 0, 0, _) from rfl) (Or.inr (Or.inl ⟨2217, [], rfl, rfl⟩)) ?_
  exact XW.wid (mc := mc) (ms := ms) (by omega) (by omega) (K w2 ⟨hf2, ⟨_, _, hw2⟩, ⟨(c2_0.trans c1_0).trans (hv.1.trans (m1_0.symm.trans m2_0.symm)), (c2_1.trans c1_1).trans (hv.2.1.trans (m1_1.symm.trans m2_1.symm)), (c2_2.trans c1_2).trans (hv.2.2.1.trans (m1_2.symm.trans m2_2.symm)), fun k => ((c2_3 k).trans (c1_3 k)).trans ((hv.2.2.2.1 k).trans ((m1_3 k).symm.trans (m2_3 k).symm)), (c2_4.trans c1_4).trans (hv.2.2.2.2.1.trans (m1_4.symm.trans m2_4.symm)), fun k => ((c2_5 k).trans (c1_5 k)).trans ((hv.2.2.2.2.2.1 k).trans ((m1_5 k).symm.trans (m2_5 k).symm)), fun k => ((c2_6 k).trans (c1_6 k)).trans ((hv.2.2.2.2.2.2.1 k).trans ((m1_6 k).symm.trans (m2_6 k).symm)), RLf_keep (fun k => (y2_7_0 k).trans (y1_7_0 k)) (fun k => (y2_7_1 k).trans (y1_7_1 k)) (fun k => (y2_7_2 k).trans (y1_7_2 k)) (fun k => (y2_7_3 k).trans (y1_7_3 k)) (y2_7_4.trans y1_7_4) hv.2.2.2.2.2.2.2⟩⟩)
set_option maxRecDepth 100000 in
theorem case_12 {Ln : Nat} {xs : Nat → Int32} {mc ms : Nat} {w : mW} {i : Int32} (hi0 : 0 ≤ i.toInt) (hi1 : i.toInt + 6 ≤ Ln) (hL : Ln ≤ 3072) (hV : IV w) (K : ∀ w', IV w' → XW 371 mr_371 (some (Ln, xs)) 91 mc ms Qone (2217, [(3, .int i), (2, .ref 94), (1, .ref 0), (0, .retAddr 0)], [], w')) : XW 371 mr_371 (some (Ln, xs)) 91 (mc + 1) (ms + 240) Qone (692, [(3, .int i), (2, .ref 94), (1, .ref 0), (0, .retAddr 0)], [], w) := by
  obtain ⟨hf, ⟨sh, R, hw⟩, hv⟩ := hV
  refine XW.fam (S' := (693, [(3, .int i), (2, .ref 94), (1, .ref 0), (0, .retAddr 0)], [.ref 0], w)) (M := mr_371) rfl (show mcode 371 692 = some (692, .aload_n 1, 1, 0, 0, 0, _) from rfl) (Or.inl ⟨.ref 0, rfl, rfl⟩) ?_
  refine lw_ld (pc := 693) (n := 1) rfl rfl rfl rfl rfl (by decide) hi0 hi1 hL ?_
  refine lw_ld (pc := 698) (n := 2) rfl rfl rfl rfl rfl (by decide) hi0 hi1 hL ?_
  refine XW.call (d' := 41) (mc' := 0) (ms' := 0) (av := [.ref 0, .int (xs (i + Int32.ofInt 1).toNatClampNeg), .int (xs (i + Int32.ofInt 2).toNatClampNeg)]) (rest := []) (M := mr_371) (Ma := mr_60) rfl (show mcode 371 703 = some (703, .invokevirtual 65, 3, 60, 0, 0, _) from rfl) rfl (by decide) (by decide) ⟨rfl, 0, _, rfl, (iv_cell hw).1⟩ rfl rfl (show _ ≤ 8 by decide) (kk_24 [.ref 0, .int (xs (i + Int32.ofInt 1).toNatClampNeg), .int (xs (i + Int32.ofInt 2).toNatClampNeg)] w hw ⟨rfl, any32 _, any32 _, trivial⟩ (fun q hq => by cases hq) hf) (by decide) (by omega) (by omega) (fun r1 w1 hQ1 => ?_)
  obtain ⟨hf1, hw1, hI1, ⟨x1, rfl, -, -⟩, -⟩ := hQ1
  have c1_0 : w1.2.1 1 1 = w.2.1 1 1 := hI1 1 1 rfl
  have m1_0 : w1.2.1 94 2 = w.2.1 94 2 := hI1 94 2 rfl
  have c1_1 : w1.2.1 1 0 = w.2.1 1 0 := hI1 1 0 rfl
  have m1_1 : w1.2.1 94 1 = w.2.1 94 1 := hI1 94 1 rfl
  have c1_2 : w1.2.1 41 0 = w.2.1 41 0 := hI1 41 0 rfl
  have m1_2 : w1.2.1 94 34 = w.2.1 94 34 := hI1 94 34 rfl
  have c1_3 : ∀ k, w1.2.1 42 k = w.2.1 42 k := fun k => hI1 42 k rfl
  have m1_3 : ∀ k, w1.2.1 122 k = w.2.1 122 k := fun k => hI1 122 k rfl
  have c1_4 : w1.2.1 47 3 = w.2.1 47 3 := hI1 47 3 rfl
  have m1_4 : w1.2.1 94 35 = w.2.1 94 35 := hI1 94 35 rfl
  have c1_5 : ∀ k, w1.2.1 48 k = w.2.1 48 k := fun k => hI1 48 k rfl
  have m1_5 : ∀ k, w1.2.1 123 k = w.2.1 123 k := fun k => hI1 123 k rfl
  have c1_6 : ∀ k, w1.2.1 49 k = w.2.1 49 k := fun k => hI1 49 k rfl
  have m1_6 : ∀ k, w1.2.1 124 k = w.2.1 124 k := fun k => hI1 124 k rfl
  have y1_7_0 : ∀ k, w1.2.1 5 k = w.2.1 5 k := fun k => hI1 5 k rfl
  have y1_7_1 : ∀ k, w1.2.1 98 k = w.2.1 98 k := fun k => hI1 98 k rfl
  have y1_7_2 : ∀ k, w1.2.1 8 k = w.2.1 8 k := fun k => hI1 8 k rfl
  have y1_7_3 : ∀ k, w1.2.1 102 k = w.2.1 102 k := fun k => hI1 102 k rfl
  have y1_7_4 : w1.2.1 1 1 = w.2.1 1 1 := hI1 1 1 rfl
  refine XW.fam (S' := (707, [(3, .int i), (2, .ref 94), (1, .ref 0), (0, .retAddr 0)], [], w1)) (M := mr_371) rfl (show mcode 371 706 = some (706, .pop, 1, 0, 0, 0, _) from rfl) (Or.inr (Or.inr (Or.inr (Or.inr (Or.inr (Or.inl ⟨_, rfl, rfl⟩)))))) ?_
  refine XW.fam (S' := (708, [(3, .int i), (2, .ref 94), (1, .ref 0), (0, .retAddr 0)], [.ref 94], w1)) (M := mr_371) rfl (show mcode 371 707 = some (707, .aload_n 2, 1, 0, 0, 0, _) from rfl) (Or.inl ⟨.ref 94, rfl, rfl⟩) ?_
  refine lw_ld (pc := 708) (n := 1) rfl rfl rfl rfl rfl (by decide) hi0 hi1 hL ?_
  refine lw_ld (pc := 713) (n := 2) rfl rfl rfl rfl rfl (by decide) hi0 hi1 hL ?_
  refine XW.call (d' := 41) (mc' := 0) (ms' := 0) (av := [.ref 94, .int (xs (i + Int32.ofInt 1).toNatClampNeg), .int (xs (i + Int32.ofInt 2).toNatClampNeg)]) (rest := []) (M := mr_371) (Ma := mr_258) rfl (show mcode 371 718 = some (718, .invokevirtual 68, 3, 258, 0, 0, _) from rfl) rfl (by decide) (by decide) ⟨rfl, 94, _, rfl, (iv_cell hw1).2⟩ rfl rfl (show _ ≤ 8 by decide) (kk_241 [.ref 94, .int (xs (i + Int32.ofInt 1).toNatClampNeg), .int (xs (i + Int32.ofInt 2).toNatClampNeg)] w1 hw1 ⟨rfl, any32 _, any32 _, trivial⟩ (fun q hq => by cases hq) hf1) (by decide) (by omega) (by omega) (fun r2 w2 hQ2 => ?_)
  obtain ⟨hf2, hw2, hI2, ⟨x2, rfl, -, -⟩, -⟩ := hQ2
  have c2_0 : w2.2.1 1 1 = w1.2.1 1 1 := hI2 1 1 rfl
  have m2_0 : w2.2.1 94 2 = w1.2.1 94 2 := hI2 94 2 rfl
  have c2_1 : w2.2.1 1 0 = w1.2.1 1 0 := hI2 1 0 rfl
  have m2_1 : w2.2.1 94 1 = w1.2.1 94 1 := hI2 94 1 rfl
  have c2_2 : w2.2.1 41 0 = w1.2.1 41 0 := hI2 41 0 rfl
  have m2_2 : w2.2.1 94 34 = w1.2.1 94 34 := hI2 94 34 rfl
  have c2_3 : ∀ k, w2.2.1 42 k = w1.2.1 42 k := fun k => hI2 42 k rfl
  have m2_3 : ∀ k, w2.2.1 122 k = w1.2.1 122 k := fun k => hI2 122 k rfl
  have c2_4 : w2.2.1 47 3 = w1.2.1 47 3 := hI2 47 3 rfl
  have m2_4 : w2.2.1 94 35 = w1.2.1 94 35 := hI2 94 35 rfl
  have c2_5 : ∀ k, w2.2.1 48 k = w1.2.1 48 k := fun k => hI2 48 k rfl
  have m2_5 : ∀ k, w2.2.1 123 k = w1.2.1 123 k := fun k => hI2 123 k rfl
  have c2_6 : ∀ k, w2.2.1 49 k = w1.2.1 49 k := fun k => hI2 49 k rfl
  have m2_6 : ∀ k, w2.2.1 124 k = w1.2.1 124 k := fun k => hI2 124 k rfl
  have y2_7_0 : ∀ k, w2.2.1 5 k = w1.2.1 5 k := fun k => hI2 5 k rfl
  have y2_7_1 : ∀ k, w2.2.1 98 k = w1.2.1 98 k := fun k => hI2 98 k rfl
  have y2_7_2 : ∀ k, w2.2.1 8 k = w1.2.1 8 k := fun k => hI2 8 k rfl
  have y2_7_3 : ∀ k, w2.2.1 102 k = w1.2.1 102 k := fun k => hI2 102 k rfl
  have y2_7_4 : w2.2.1 1 1 = w1.2.1 1 1 := hI2 1 1 rfl
  refine XW.fam (S' := (722, [(3, .int i), (2, .ref 94), (1, .ref 0), (0, .retAddr 0)], [], w2)) (M := mr_371) rfl (show mcode 371 721 = some (721, .pop, 1, 0, 0, 0, _) from rfl) (Or.inr (Or.inr (Or.inr (Or.inr (Or.inr (Or.inl ⟨_, rfl, rfl⟩)))))) ?_
  refine XW.fam (S' := (2217, [(3, .int i), (2, .ref 94), (1, .ref 0), (0, .retAddr 0)], [], w2)) (M := mr_371) rfl (show mcode 371 722 = some (722, .goto 1495, 3, 2217, 0, 0, _) from rfl) (Or.inr (Or.inl ⟨2217, [], rfl, rfl⟩)) ?_
  exact XW.wid (mc := mc) (ms := ms) (by omega) (by omega) (K w2 ⟨hf2, ⟨_, _, hw2⟩, ⟨(c2_0.trans c1_0).trans (hv.1.trans (m1_0.symm.trans m2_0.symm)), (c2_1.trans c1_1).trans (hv.2.1.trans (m1_1.symm.trans m2_1.symm)), (c2_2.trans c1_2).trans (hv.2.2.1.trans (m1_2.symm.trans m2_2.symm)), fun k => ((c2_3 k).trans (c1_3 k)).trans ((hv.2.2.2.1 k).trans ((m1_3 k).symm.trans (m2_3 k).symm)), (c2_4.trans c1_4).trans (hv.2.2.2.2.1.trans (m1_4.symm.trans m2_4.symm)), fun k => ((c2_5 k).trans (c1_5 k)).trans ((hv.2.2.2.2.2.1 k).trans ((m1_5 k).symm.trans (m2_5 k).symm)), fun k => ((c2_6 k).trans (c1_6 k)).trans ((hv.2.2.2.2.2.2.1 k).trans ((m1_6 k).symm.trans (m2_6 k).symm)), RLf_keep (fun k => (y2_7_0 k).trans (y1_7_0 k)) (fun k => (y2_7_1 k).trans (y1_7_1 k)) (fun k => (y2_7_2 k).trans (y1_7_2 k)) (fun k => (y2_7_3 k).trans (y1_7_3 k)) (y2_7_4.trans y1_7_4) hv.2.2.2.2.2.2.2⟩⟩)
set_option maxRecDepth 100000 in
theorem case_13 {Ln : Nat} {xs : Nat → Int32} {mc ms : Nat} {w : mW} {i : Int32} (hi0 : 0 ≤ i.toInt) (hi1 : i.toInt + 6 ≤ Ln) (hL : Ln ≤ 3072) (hV : IV w) (K : ∀ w', IV w' → XW 371 mr_371 (some (Ln, xs)) 91 mc ms Qone (2217, [(3, .int i), (2, .ref 94), (1, .ref 0), (0, .retAddr 0)], [], w')) : XW 371 mr_371 (some (Ln, xs)) 91 (mc + 1) (ms + 240) Qone (725, [(3, .int i), (2, .ref 94), (1, .ref 0), (0, .retAddr 0)], [], w) := by
  obtain ⟨hf, ⟨sh, R, hw⟩, hv⟩ := hV
  refine XW.fam (S' := (726, [(3, .int i), (2, .ref 94), (1, .ref 0), (0, .retAddr 0)], [.ref 0], w)) (M := mr_371) rfl (show mcode 371 725 = some (725, .aload_n 1, 1, 0, 0, 0, _) from rfl) (Or.inl ⟨.ref 0, rfl, rfl⟩) ?_
  refine lw_ld (pc := 726) (n := 1) rfl rfl rfl rfl rfl (by decide) hi0 hi1 hL ?_
  refine lw_ld (pc := 731) (n := 2) rfl rfl rfl rfl rfl (by decide) hi0 hi1 hL ?_
  refine lw_ld (pc := 736) (n := 3) rfl rfl rfl rfl rfl (by decide) hi0 hi1 hL ?_
  refine lw_ld (pc := 741) (n := 4) rfl rfl rfl rfl rfl (by decide) hi0 hi1 hL ?_
  refine XW.call (d' := 43) (mc' := 0) (ms' := 0) (av := [.ref 0, .int (xs (i + Int32.ofInt 1).toNatClampNeg), .int (xs (i + Int32.ofInt 2).toNatClampNeg), .int (xs (i + Int32.ofInt 3).toNatClampNeg), .int (xs (i + Int32.ofInt 4).toNatClampNeg)]) (rest := []) (M := mr_371) (Ma := mr_64) rfl (show mcode 371 746 = some (746, .invokevirtual 69, 3, 64, 0, 0, _) from rfl) rfl (by decide) (by decide) ⟨rfl, 0, _, rfl, (iv_cell hw).1⟩ rfl rfl (show _ ≤ 8 by decide) (kk_26 [.ref 0, .int (xs (i + Int32.ofInt 1).toNatClampNeg), .int (xs (i + Int32.ofInt 2).toNatClampNeg), .int (xs (i + Int32.ofInt 3).toNatClampNeg), .int (xs (i + Int32.ofInt 4).toNatClampNeg)] w hw ⟨rfl, any32 _, any32 _, any32 _, any32 _, trivial⟩ (fun q hq => by cases hq) hf) (by decide) (by omega) (by omega) (fun r1 w1 hQ1 => ?_)
  obtain ⟨hf1, hw1, hI1, ⟨x1, rfl, -, -⟩, -⟩ := hQ1
  have c1_0 : w1.2.1 1 1 = w.2.1 1 1 := hI1 1 1 rfl
  have m1_0 : w1.2.1 94 2 = w.2.1 94 2 := hI1 94 2 rfl
  have c1_1 : w1.2.1 1 0 = w.2.1 1 0 := hI1 1 0 rfl
  have m1_1 : w1.2.1 94 1 = w.2.1 94 1 := hI1 94 1 rfl
  have c1_2 : w1.2.1 41 0 = w.2.1 41 0 := hI1 41 0 rfl
  have m1_2 : w1.2.1 94 34 = w.2.1 94 34 := hI1 94 34 rfl
  have c1_3 : ∀ k, w1.2.1 42 k = w.2.1 42 k := fun k => hI1 42 k rfl
  have m1_3 : ∀ k, w1.2.1 122 k = w.2.1 122 k := fun k => hI1 122 k rfl
  have c1_4 : w1.2.1 47 3 = w.2.1 47 3 := hI1 47 3 rfl
  have m1_4 : w1.2.1 94 35 = w.2.1 94 35 := hI1 94 35 rfl
  have c1_5 : ∀ k, w1.2.1 48 k = w.2.1 48 k := fun k => hI1 48 k rfl
  have m1_5 : ∀ k, w1.2.1 123 k = w.2.1 123 k := fun k => hI1 123 k rfl
  have c1_6 : ∀ k, w1.2.1 49 k = w.2.1 49 k := fun k => hI1 49 k rfl
  have m1_6 : ∀ k, w1.2.1 124 k = w.2.1 124 k := fun k => hI1 124 k rfl
  have y1_7_0 : ∀ k, w1.2.1 5 k = w.2.1 5 k := fun k => hI1 5 k rfl
  have y1_7_1 : ∀ k, w1.2.1 98 k = w.2.1 98 k := fun k => hI1 98 k rfl
  have y1_7_2 : ∀ k, w1.2.1 8 k = w.2.1 8 k := fun k => hI1 8 k rfl
  have y1_7_3 : ∀ k, w1.2.1 102 k = w.2.1 102 k := fun k => hI1 102 k rfl
  have y1_7_4 : w1.2.1 1 1 = w.2.1 1 1 := hI1 1 1 rfl
  refine XW.fam (S' := (750, [(3, .int i), (2, .ref 94), (1, .ref 0), (0, .retAddr 0)], [], w1)) (M := mr_371) rfl (show mcode 371 749 = some (749, .pop, 1, 0, 0, 0, _) from rfl) (Or.inr (Or.inr (Or.inr (Or.inr (Or.inr (Or.inl ⟨_, rfl, rfl⟩)))))) ?_
  refine XW.fam (S' := (751, [(3, .int i), (2, .ref 94), (1, .ref 0), (0, .retAddr 0)], [.ref 94], w1)) (M := mr_371) rfl (show mcode 371 750 = some (750, .aload_n 2, 1, 0, 0, 0, _) from rfl) (Or.inl ⟨.ref 94, rfl, rfl⟩) ?_
  refine lw_ld (pc := 751) (n := 1) rfl rfl rfl rfl rfl (by decide) hi0 hi1 hL ?_
  refine lw_ld (pc := 756) (n := 2) rfl rfl rfl rfl rfl (by decide) hi0 hi1 hL ?_
  refine lw_ld (pc := 761) (n := 3) rfl rfl rfl rfl rfl (by decide) hi0 hi1 hL ?_
  refine lw_ld (pc := 766) (n := 4) rfl rfl rfl rfl rfl (by decide) hi0 hi1 hL ?_
  refine XW.call (d' := 41) (mc' := 0) (ms' := 0) (av := [.ref 94, .int (xs (i + Int32.ofInt 1).toNatClampNeg), .int (xs (i + Int32.ofInt 2).toNatClampNeg), .int (xs (i + Int32.ofInt 3).toNatClampNeg), .int (xs (i + Int32.ofInt 4).toNatClampNeg)]) (rest := []) (M := mr_371) (Ma := mr_259) rfl (show mcode 371 771 = some (771, .invokevirtual 72, 3, 259, 0, 0, _) from rfl) rfl (by decide) (by decide) ⟨rfl, 94, _, rfl, (iv_cell hw1).2⟩ rfl rfl (show _ ≤ 8 by decide) (kk_242 [.ref 94, .int (xs (i + Int32.ofInt 1).toNatClampNeg), .int (xs (i + Int32.ofInt 2).toNatClampNeg), .int (xs (i + Int32.ofInt 3).toNatClampNeg), .int (xs (i + Int32.ofInt 4).toNatClampNeg)] w1 hw1 ⟨rfl, any32 _, any32 _, any32 _, any32 _, trivial⟩ (fun q hq => by cases hq) hf1) (by decide) (by omega) (by omega) (fun r2 w2 hQ2 => ?_)
  obtain ⟨hf2, hw2, hI2, ⟨x2, rfl, -, -⟩, -⟩ := hQ2
  have c2_0 : w2.2.1 1 1 = w1.2.1 1 1 := hI2 1 1 rfl
  have m2_0 : w2.2.1 94 2 = w1.2.1 94 2 := hI2 94 2 rfl
  have c2_1 : w2.2.1 1 0 = w1.2.1 1 0 := hI2 1 0 rfl
  have m2_1 : w2.2.1 94 1 = w1.2.1 94 1 := hI2 94 1 rfl
  have c2_2 : w2.2.1 41 0 = w1.2.1 41 0 := hI2 41 0 rfl
  have m2_2 : w2.2.1 94 34 = w1.2.1 94 34 := hI2 94 34 rfl
  have c2_3 : ∀ k, w2.2.1 42 k = w1.2.1 42 k := fun k => hI2 42 k rfl
  have m2_3 : ∀ k, w2.2.1 122 k = w1.2.1 122 k := fun k => hI2 122 k rfl
  have c2_4 : w2.2.1 47 3 = w1.2.1 47 3 := hI2 47 3 rfl
  have m2_4 : w2.2.1 94 35 = w1.2.1 94 35 := hI2 94 35 rfl
  have c2_5 : ∀ k, w2.2.1 48 k = w1.2.1 48 k := fun k => hI2 48 k rfl
  have m2_5 : ∀ k, w2.2.1 123 k = w1.2.1 123 k := fun k => hI2 123 k rfl
  have c2_6 : ∀ k, w2.2.1 49 k = w1.2.1 49 k := fun k => hI2 49 k rfl
  have m2_6 : ∀ k, w2.2.1 124 k = w1.2.1 124 k := fun k => hI2 124 k rfl
  have y2_7_0 : ∀ k, w2.2.1 5 k = w1.2.1 5 k := fun k => hI2 5 k rfl
  have y2_7_1 : ∀ k, w2.2.1 98 k = w1.2.1 98 k := fun k => hI2 98 k rfl
  have y2_7_2 : ∀ k, w2.2.1 8 k = w1.2.1 8 k := fun k => hI2 8 k rfl
  have y2_7_3 : ∀ k, w2.2.1 102 k = w1.2.1 102 k := fun k => hI2 102 k rfl
  have y2_7_4 : w2.2.1 1 1 = w1.2.1 1 1 := hI2 1 1 rfl
  refine XW.fam (S' := (775, [(3, .int i), (2, .ref 94), (1, .ref 0), (0, .retAddr 0)], [], w2)) (M := mr_371) rfl (show mcode 371 774 = some (774, .pop, 1, 0, 0, 0, _) from rfl) (Or.inr (Or.inr (Or.inr (Or.inr (Or.inr (Or.inl ⟨_, rfl, rfl⟩)))))) ?_
  refine XW.fam (S' := (2217, [(3, .int i), (2, .ref 94), (1, .ref 0), (0, .retAddr 0)], [], w2)) (M := mr_371) rfl (show mcode 371 775 = some (775, .goto 1442, 3, 2217, 0, 0, _) from rfl) (Or.inr (Or.inl ⟨2217, [], rfl, rfl⟩)) ?_
  exact XW.wid (mc := mc) (ms := ms) (by omega) (by omega) (K w2 ⟨hf2, ⟨_, _, hw2⟩, ⟨(c2_0.trans c1_0).trans (hv.1.trans (m1_0.symm.trans m2_0.symm)), (c2_1.trans c1_1).trans (hv.2.1.trans (m1_1.symm.trans m2_1.symm)), (c2_2.trans c1_2).trans (hv.2.2.1.trans (m1_2.symm.trans m2_2.symm)), fun k => ((c2_3 k).trans (c1_3 k)).trans ((hv.2.2.2.1 k).trans ((m1_3 k).symm.trans (m2_3 k).symm)), (c2_4.trans c1_4).trans (hv.2.2.2.2.1.trans (m1_4.symm.trans m2_4.symm)), fun k => ((c2_5 k).trans (c1_5 k)).trans ((hv.2.2.2.2.2.1 k).trans ((m1_5 k).symm.trans (m2_5 k).symm)), fun k => ((c2_6 k).trans (c1_6 k)).trans ((hv.2.2.2.2.2.2.1 k).trans ((m1_6 k).symm.trans (m2_6 k).symm)), RLf_keep (fun k => (y2_7_0 k).trans (y1_7_0 k)) (fun k => (y2_7_1 k).trans (y1_7_1 k)) (fun k => (y2_7_2 k).trans (y1_7_2 k)) (fun k => (y2_7_3 k).trans (y1_7_3 k)) (y2_7_4.trans y1_7_4) hv.2.2.2.2.2.2.2⟩⟩)
set_option maxRecDepth 100000 in
theorem case_14 {Ln : Nat} {xs : Nat → Int32} {mc ms : Nat} {w : mW} {i : Int32} (hi0 : 0 ≤ i.toInt) (hi1 : i.toInt + 6 ≤ Ln) (hL : Ln ≤ 3072) (hV : IV w) (K : ∀ w', IV w' → XW 371 mr_371 (some (Ln, xs)) 91 mc ms Qone (2217, [(3, .int i), (2, .ref 94), (1, .ref 0), (0, .retAddr 0)], [], w')) : XW 371 mr_371 (some (Ln, xs)) 91 (mc + 1) (ms + 240) Qone (778, [(3, .int i), (2, .ref 94), (1, .ref 0), (0, .retAddr 0)], [], w) := by
  obtain ⟨hf, ⟨sh, R, hw⟩, hv⟩ := hV
  refine XW.fam (S' := (779, [(3, .int i), (2, .ref 94), (1, .ref 0), (0, .retAddr 0)], [.ref 0], w)) (M := mr_371) rfl (show mcode 371 778 = some (778, .aload_n 1, 1, 0, 0, 0, _) from rfl) (Or.inl ⟨.ref 0, rfl, rfl⟩) ?_
  refine lw_ld (pc := 779) (n := 1) rfl rfl rfl rfl rfl (by decide) hi0 hi1 hL ?_
  refine XW.call (d' := 41) (mc' := 0) (ms' := 0) (av := [.ref 0, .int (xs (i + Int32.ofInt 1).toNatClampNeg)]) (rest := []) (M := mr_371) (Ma := mr_68) rfl (show mcode 371 784 = some (784, .invokevirtual 73, 3, 68, 0, 0, _) from rfl) rfl (by decide) (by decide) ⟨rfl, 0, _, rfl, (iv_cell hw).1⟩ rfl rfl (show _ ≤ 8 by decide) (kk_27 [.ref 0, .int (xs (i + Int32.ofInt 1).toNatClampNeg)] w hw ⟨rfl, any32 _, trivial⟩ (fun q hq => by cases hq) hf) (by decide) (by omega) (by omega) (fun r1 w1 hQ1 => ?_)
  obtain ⟨hf1, hw1, hI1, ⟨x1, rfl, -, -⟩, -⟩ := hQ1
  have c1_0 : w1.2.1 1 1 = w.2.1 1 1 := hI1 1 1 rfl
  have m1_0 : w1.2.1 94 2 = w.2.1 94 2 := hI1 94 2 rfl
  have c1_1 : w1.2.1 1 0 = w.2.1 1 0 := hI1 1 0 rfl
  have m1_1 : w1.2.1 94 1 = w.2.1 94 1 := hI1 94 1 rfl
  have c1_2 : w1.2.1 41 0 = w.2.1 41 0 := hI1 41 0 rfl
  have m1_2 : w1.2.1 94 34 = w.2.1 94 34 := hI1 94 34 rfl
  have c1_3 : ∀ k, w1.2.1 42 k = w.2.1 42 k := fun k => hI1 42 k rfl
  have m1_3 : ∀ k, w1.2.1 122 k = w.2.1 122 k := fun k => hI1 122 k rfl
  have c1_4 : w1.2.1 47 3 = w.2.1 47 3 := hI1 47 3 rfl
  have m1_4 : w1.2.1 94 35 = w.2.1 94 35 := hI1 94 35 rfl
  have c1_5 : ∀ k, w1.2.1 48 k = w.2.1 48 k := fun k => hI1 48 k rfl
  have m1_5 : ∀ k, w1.2.1 123 k = w.2.1 123 k := fun k => hI1 123 k rfl
  have c1_6 : ∀ k, w1.2.1 49 k = w.2.1 49 k := fun k => hI1 49 k rfl
  have m1_6 : ∀ k, w1.2.1 124 k = w.2.1 124 k := fun k => hI1 124 k rfl
  have y1_7_0 : ∀ k, w1.2.1 5 k = w.2.1 5 k := fun k => hI1 5 k rfl
  have y1_7_1 : ∀ k, w1.2.1 98 k = w.2.1 98 k := fun k => hI1 98 k rfl
  have y1_7_2 : ∀ k, w1.2.1 8 k = w.2.1 8 k := fun k => hI1 8 k rfl
  have y1_7_3 : ∀ k, w1.2.1 102 k = w.2.1 102 k := fun k => hI1 102 k rfl
  have y1_7_4 : w1.2.1 1 1 = w.2.1 1 1 := hI1 1 1 rfl
  refine XW.fam (S' := (788, [(3, .int i), (2, .ref 94), (1, .ref 0), (0, .retAddr 0)], [], w1)) (M := mr_371) rfl (show mcode 371 787 = some (787, .pop, 1, 0, 0, 0, _) from rfl) (Or.inr (Or.inr (Or.inr (Or.inr (Or.inr (Or.inl ⟨_, rfl, rfl⟩)))))) ?_
  refine XW.fam (S' := (789, [(3, .int i), (2, .ref 94), (1, .ref 0), (0, .retAddr 0)], [.ref 94], w1)) (M := mr_371) rfl (show mcode 371 788 = some (788, .aload_n 2, 1, 0, 0, 0, _) from rfl) (Or.inl ⟨.ref 94, rfl, rfl⟩) ?_
  refine lw_ld (pc := 789) (n := 1) rfl rfl rfl rfl rfl (by decide) hi0 hi1 hL ?_
  refine XW.call (d' := 41) (mc' := 0) (ms' := 0) (av := [.ref 94, .int (xs (i + Int32.ofInt 1).toNatClampNeg)]) (rest := []) (M := mr_371) (Ma := mr_261) rfl (show mcode 371 794 = some (794, .invokevirtual 76, 3, 261, 0, 0, _) from rfl) rfl (by decide) (by decide) ⟨rfl, 94, _, rfl, (iv_cell hw1).2⟩ rfl rfl (show _ ≤ 8 by decide) (kk_243 [.ref 94, .int (xs (i + Int32.ofInt 1).toNatClampNeg)] w1 hw1 ⟨rfl, any32 _, trivial⟩ (fun q hq => by cases hq) hf1) (by decide) (by omega) (by omega) (fun r2 w2 hQ2 => ?_)
  obtain ⟨hf2, hw2, hI2, ⟨x2, rfl, -, -⟩, -⟩ := hQ2
  have c2_0 : w2.2.1 1 1 = w1.2.1 1 1 := hI2 1 1 rfl
  have m2_0 : w2.2.1 94 2 = w1.2.1 94 2 := hI2 94 2 rfl
  have c2_1 : w2.2.1 1 0 = w1.2.1 1 0 := hI2 1 0 rfl
  have m2_1 : w2.2.1 94 1 = w1.2.1 94 1 := hI2 94 1 rfl
  have c2_2 : w2.2.1 41 0 = w1.2.1 41 0 := hI2 41 0 rfl
  have m2_2 : w2.2.1 94 34 = w1.2.1 94 34 := hI2 94 34 rfl
  have c2_3 : ∀ k, w2.2.1 42 k = w1.2.1 42 k := fun k => hI2 42 k rfl
  have m2_3 : ∀ k, w2.2.1 122 k = w1.2.1 122 k := fun k => hI2 122 k rfl
  have c2_4 : w2.2.1 47 3 = w1.2.1 47 3 := hI2 47 3 rfl
  have m2_4 : w2.2.1 94 35 = w1.2.1 94 35 := hI2 94 35 rfl
  have c2_5 : ∀ k, w2.2.1 48 k = w1.2.1 48 k := fun k => hI2 48 k rfl
  have m2_5 : ∀ k, w2.2.1 123 k = w1.2.1 123 k := fun k => hI2 123 k rfl
  have c2_6 : ∀ k, w2.2.1 49 k = w1.2.1 49 k := fun k => hI2 49 k rfl
  have m2_6 : ∀ k, w2.2.1 124 k = w1.2.1 124 k := fun k => hI2 124 k rfl
  have y2_7_0 : ∀ k, w2.2.1 5 k = w1.2.1 5 k := fun k => hI2 5 k rfl
  have y2_7_1 : ∀ k, w2.2.1 98 k = w1.2.1 98 k := fun k => hI2 98 k rfl
  have y2_7_2 : ∀ k, w2.2.1 8 k = w1.2.1 8 k := fun k => hI2 8 k rfl
  have y2_7_3 : ∀ k, w2.2.1 102 k = w1.2.1 102 k := fun k => hI2 102 k rfl
  have y2_7_4 : w2.2.1 1 1 = w1.2.1 1 1 := hI2 1 1 rfl
  refine XW.fam (S' := (798, [(3, .int i), (2, .ref 94), (1, .ref 0), (0, .retAddr 0)], [], w2)) (M := mr_371) rfl (show mcode 371 797 = some (797, .pop, 1, 0, 0, 0, _) from rfl) (Or.inr (Or.inr (Or.inr (Or.inr (Or.inr (Or.inl ⟨_, rfl, rfl⟩)))))) ?_
  refine XW.fam (S' := (2217, [(3, .int i), (2, .ref 94), (1, .ref 0), (0, .retAddr 0)], [], w2)) (M := mr_371) rfl (show mcode 371 798 = some (798, .goto 1419, 3, 2217, 0, 0, _) from rfl) (Or.inr (Or.inl ⟨2217, [], rfl, rfl⟩)) ?_
  exact XW.wid (mc := mc) (ms := ms) (by omega) (by omega) (K w2 ⟨hf2, ⟨_, _, hw2⟩, ⟨(c2_0.trans c1_0).trans (hv.1.trans (m1_0.symm.trans m2_0.symm)), (c2_1.trans c1_1).trans (hv.2.1.trans (m1_1.symm.trans m2_1.symm)), (c2_2.trans c1_2).trans (hv.2.2.1.trans (m1_2.symm.trans m2_2.symm)), fun k => ((c2_3 k).trans (c1_3 k)).trans ((hv.2.2.2.1 k).trans ((m1_3 k).symm.trans (m2_3 k).symm)), (c2_4.trans c1_4).trans (hv.2.2.2.2.1.trans (m1_4.symm.trans m2_4.symm)), fun k => ((c2_5 k).trans (c1_5 k)).trans ((hv.2.2.2.2.2.1 k).trans ((m1_5 k).symm.trans (m2_5 k).symm)), fun k => ((c2_6 k).trans (c1_6 k)).trans ((hv.2.2.2.2.2.2.1 k).trans ((m1_6 k).symm.trans (m2_6 k).symm)), RLf_keep (fun k => (y2_7_0 k).trans (y1_7_0 k)) (fun k => (y2_7_1 k).trans (y1_7_1 k)) (fun k => (y2_7_2 k).trans (y1_7_2 k)) (fun k => (y2_7_3 k).trans (y1_7_3 k)) (y2_7_4.trans y1_7_4) hv.2.2.2.2.2.2.2⟩⟩)
set_option maxRecDepth 100000 in
theorem case_15 {Ln : Nat} {xs : Nat → Int32} {mc ms : Nat} {w : mW} {i : Int32} (hi0 : 0 ≤ i.toInt) (hi1 : i.toInt + 6 ≤ Ln) (hL : Ln ≤ 3072) (hV : IV w) (K : ∀ w', IV w' → XW 371 mr_371 (some (Ln, xs)) 91 mc ms Qone (2217, [(3, .int i), (2, .ref 94), (1, .ref 0), (0, .retAddr 0)], [], w')) : XW 371 mr_371 (some (Ln, xs)) 91 (mc + 1) (ms + 240) Qone (801, [(3, .int i), (2, .ref 94), (1, .ref 0), (0, .retAddr 0)], [], w) := by
  obtain ⟨hf, ⟨sh, R, hw⟩, hv⟩ := hV
  refine XW.fam (S' := (802, [(3, .int i), (2, .ref 94), (1, .ref 0), (0, .retAddr 0)], [.ref 0], w)) (M := mr_371) rfl (show mcode 371 801 = some (801, .aload_n 1, 1, 0, 0, 0, _) from rfl) (Or.inl ⟨.ref 0, rfl, rfl⟩) ?_
  refine lw_ld (pc := 802) (n := 1) rfl rfl rfl rfl rfl (by decide) hi0 hi1 hL ?_
  refine lw_ld (pc := 807) (n := 2) rfl rfl rfl rfl rfl (by decide) hi0 hi1 hL ?_
  refine lw_ld (pc := 812) (n := 3) rfl rfl rfl rfl rfl (by decide) hi0 hi1 hL ?_
  refine XW.call (d' := 43) (mc' := 0) (ms' := 0) (av := [.ref 0, .int (xs (i + Int32.ofInt 1).toNatClampNeg), .int (xs (i + Int32.ofInt 2).toNatClampNeg), .int (xs (i + Int32.ofInt 3).toNatClampNeg)]) (rest := []) (M := mr_371) (Ma := mr_70) rfl (show mcode 371 817 = some (817, .invokevirtual 77, 3, 70, 0, 0, _) from rfl) rfl (by decide) (by decide) ⟨rfl, 0, _, rfl, (iv_cell hw).1⟩ rfl rfl (show _ ≤ 8 by decide) (kk_30 [.ref 0, .int (xs (i + Int32.ofInt 1).toNatClampNeg), .int (xs (i + Int32.ofInt 2).toNatClampNeg), .int (xs (i + Int32.ofInt 3).toNatClampNeg)] w hw ⟨rfl, any32 _, any32 _, any32 _, trivial⟩ (fun q hq => by cases hq) hf) (by decide) (by omega) (by omega) (fun r1 w1 hQ1 => ?_)
  obtain ⟨hf1, hw1, hI1, ⟨x1, rfl, -, -⟩, -⟩ := hQ1
  have c1_0 : w1.2.1 1 1 = w.2.1 1 1 := hI1 1 1 rfl
  have m1_0 : w1.2.1 94 2 = w.2.1 94 2 := hI1 94 2 rfl
  have c1_1 : w1.2.1 1 0 = w.2.1 1 0 := hI1 1 0 rfl
  have m1_1 : w1.2.1 94 1 = w.2.1 94 1 := hI1 94 1 rfl
  have c1_2 : w1.2.1 41 0 = w.2.1 41 0 := hI1 41 0 rfl
  have m1_2 : w1.2.1 94 34 = w.2.1 94 34 := hI1 94 34 rfl
  have c1_3 : ∀ k, w1.2.1 42 k = w.2.1 42 k := fun k => hI1 42 k rfl
  have m1_3 : ∀ k, w1.2.1 122 k = w.2.1 122 k := fun k => hI1 122 k rfl
  have c1_4 : w1.2.1 47 3 = w.2.1 47 3 := hI1 47 3 rfl
  have m1_4 : w1.2.1 94 35 = w.2.1 94 35 := hI1 94 35 rfl
  have c1_5 : ∀ k, w1.2.1 48 k = w.2.1 48 k := fun k => hI1 48 k rfl
  have m1_5 : ∀ k, w1.2.1 123 k = w.2.1 123 k := fun k => hI1 123 k rfl
  have c1_6 : ∀ k, w1.2.1 49 k = w.2.1 49 k := fun k => hI1 49 k rfl
  have m1_6 : ∀ k, w1.2.1 124 k = w.2.1 124 k := fun k => hI1 124 k rfl
  have y1_7_0 : ∀ k, w1.2.1 5 k = w.2.1 5 k := fun k => hI1 5 k rfl
  have y1_7_1 : ∀ k, w1.2.1 98 k = w.2.1 98 k := fun k => hI1 98 k rfl
  have y1_7_2 : ∀ k, w1.2.1 8 k = w.2.1 8 k := fun k => hI1 8 k rfl
  have y1_7_3 : ∀ k, w1.2.1 102 k = w.2.1 102 k := fun k => hI1 102 k rfl
  have y1_7_4 : w1.2.1 1 1 = w.2.1 1 1 := hI1 1 1 rfl
  refine XW.fam (S' := (821, [(3, .int i), (2, .ref 94), (1, .ref 0), (0, .retAddr 0)], [], w1)) (M := mr_371) rfl (show mcode 371 820 = some (820, .pop, 1, 0, 0, 0, _) from rfl) (Or.inr (Or.inr (Or.inr (Or.inr (Or.inr (Or.inl ⟨_, rfl, rfl⟩)))))) ?_
  refine XW.fam (S' := (822, [(3, .int i), (2, .ref 94), (1, .ref 0), (0, .retAddr 0)], [.ref 94], w1)) (M := mr_371) rfl (show mcode 371 821 = some (821, .aload_n 2, 1, 0, 0, 0, _) from rfl) (Or.inl ⟨.ref 94, rfl, rfl⟩) ?_
  refine lw_ld (pc := 822) (n := 1) rfl rfl rfl rfl rfl (by decide) hi0 hi1 hL ?_
  refine lw_ld (pc := 827) (n := 2) rfl rfl rfl rfl rfl (by decide) hi0 hi1 hL ?_
  refine lw_ld (pc := 832) (n := 3) rfl rfl rfl rfl rfl (by decide) hi0 hi1 hL ?_
  refine XW.call (d' := 42) (mc' := 0) (ms' := 0) (av := [.ref 94, .int (xs (i + Int32.ofInt 1).toNatClampNeg), .int (xs (i + Int32.ofInt 2).toNatClampNeg), .int (xs (i + Int32.ofInt 3).toNatClampNeg)]) (rest := []) (M := mr_371) (Ma := mr_262) rfl (show mcode 371 837 = some (837, .invokevirtual 80, 3, 262, 0, 0, _) from rfl) rfl (by decide) (by decide) ⟨rfl, 94, _, rfl, (iv_cell hw1).2⟩ rfl rfl (show _ ≤ 8 by decide) (kk_247 [.ref 94, .int (xs (i + Int32.ofInt 1).toNatClampNeg), .int (xs (i + Int32.ofInt 2).toNatClampNeg), .int (xs (i + Int32.ofInt 3).toNatClampNeg)] w1 hw1 ⟨rfl, any32 _, any32 _, any32 _, trivial⟩ (fun q hq => by cases hq) hf1) (by decide) (by omega) (by omega) (fun r2 w2 hQ2 => ?_)
  obtain ⟨hf2, hw2, hI2, ⟨x2, rfl, -, -⟩, -⟩ := hQ2
  have c2_0 : w2.2.1 1 1 = w1.2.1 1 1 := hI2 1 1 rfl
  have m2_0 : w2.2.1 94 2 = w1.2.1 94 2 := hI2 94 2 rfl
  have c2_1 : w2.2.1 1 0 = w1.2.1 1 0 := hI2 1 0 rfl
  have m2_1 : w2.2.1 94 1 = w1.2.1 94 1 := hI2 94 1 rfl
  have c2_2 : w2.2.1 41 0 = w1.2.1 41 0 := hI2 41 0 rfl
  have m2_2 : w2.2.1 94 34 = w1.2.1 94 34 := hI2 94 34 rfl
  have c2_3 : ∀ k, w2.2.1 42 k = w1.2.1 42 k := fun k => hI2 42 k rfl
  have m2_3 : ∀ k, w2.2.1 122 k = w1.2.1 122 k := fun k => hI2 122 k rfl
  have c2_4 : w2.2.1 47 3 = w1.2.1 47 3 := hI2 47 3 rfl
  have m2_4 : w2.2.1 94 35 = w1.2.1 94 35 := hI2 94 35 rfl
  have c2_5 : ∀ k, w2.2.1 48 k = w1.2.1 48 k := fun k => hI2 48 k rfl
  have m2_5 : ∀ k, w2.2.1 123 k = w1.2.1 123 k := fun k => hI2 123 k rfl
  have c2_6 : ∀ k, w2.2.1 49 k = w1.2.1 49 k := fun k => hI2 49 k rfl
  have m2_6 : ∀ k, w2.2.1 124 k = w1.2.1 124 k := fun k => hI2 124 k rfl
  have y2_7_0 : ∀ k, w2.2.1 5 k = w1.2.1 5 k := fun k => hI2 5 k rfl
  have y2_7_1 : ∀ k, w2.2.1 98 k = w1.2.1 98 k := fun k => hI2 98 k rfl
  have y2_7_2 : ∀ k, w2.2.1 8 k = w1.2.1 8 k := fun k => hI2 8 k rfl
  have y2_7_3 : ∀ k, w2.2.1 102 k = w1.2.1 102 k := fun k => hI2 102 k rfl
  have y2_7_4 : w2.2.1 1 1 = w1.2.1 1 1 := hI2 1 1 rfl
  refine XW.fam (S' := (841, [(3, .int i), (2, .ref 94), (1, .ref 0), (0, .retAddr 0)], [], w2)) (M := mr_371) rfl (show mcode 371 840 = some (840, .pop, 1, 0, 0, 0, _) from rfl) (Or.inr (Or.inr (Or.inr (Or.inr (Or.inr (Or.inl ⟨_, rfl, rfl⟩)))))) ?_
  refine XW.fam (S' := (2217, [(3, .int i), (2, .ref 94), (1, .ref 0), (0, .retAddr 0)], [], w2)) (M := mr_371) rfl (show mcode 371 841 = some (841, .goto 1376, 3, 2217, 0, 0, _) from rfl) (Or.inr (Or.inl ⟨2217, [], rfl, rfl⟩)) ?_
  exact XW.wid (mc := mc) (ms := ms) (by omega) (by omega) (K w2 ⟨hf2, ⟨_, _, hw2⟩, ⟨(c2_0.trans c1_0).trans (hv.1.trans (m1_0.symm.trans m2_0.symm)), (c2_1.trans c1_1).trans (hv.2.1.trans (m1_1.symm.trans m2_1.symm)), (c2_2.trans c1_2).trans (hv.2.2.1.trans (m1_2.symm.trans m2_2.symm)), fun k => ((c2_3 k).trans (c1_3 k)).trans ((hv.2.2.2.1 k).trans ((m1_3 k).symm.trans (m2_3 k).symm)), (c2_4.trans c1_4).trans (hv.2.2.2.2.1.trans (m1_4.symm.trans m2_4.symm)), fun k => ((c2_5 k).trans (c1_5 k)).trans ((hv.2.2.2.2.2.1 k).trans ((m1_5 k).symm.trans (m2_5 k).symm)), fun k => ((c2_6 k).trans (c1_6 k)).trans ((hv.2.2.2.2.2.2.1 k).trans ((m1_6 k).symm.trans (m2_6 k).symm)), RLf_keep (fun k => (y2_7_0 k).trans (y1_7_0 k)) (fun k => (y2_7_1 k).trans (y1_7_1 k)) (fun k => (y2_7_2 k).trans (y1_7_2 k)) (fun k => (y2_7_3 k).trans (y1_7_3 k)) (y2_7_4.trans y1_7_4) hv.2.2.2.2.2.2.2⟩⟩)
set_option maxRecDepth 100000 in
theorem case_16 {Ln : Nat} {xs : Nat → Int32} {mc ms : Nat} {w : mW} {i : Int32} (hi0 : 0 ≤ i.toInt) (hi1 : i.toInt + 6 ≤ Ln) (hL : Ln ≤ 3072) (hV : IV w) (K : ∀ w', IV w' → XW 371 mr_371 (some (Ln, xs)) 91 mc ms Qone (2217, [(3, .int i), (2, .ref 94), (1, .ref 0), (0, .retAddr 0)], [], w')) : XW 371 mr_371 (some (Ln, xs)) 91 (mc + 1) (ms + 240) Qone (844, [(3, .int i), (2, .ref 94), (1, .ref 0), (0, .retAddr 0)], [], w) := by
  obtain ⟨hf, ⟨sh, R, hw⟩, hv⟩ := hV
  refine XW.fam (S' := (845, [(3, .int i), (2, .ref 94), (1, .ref 0), (0, .retAddr 0)], [.ref 0], w)) (M := mr_371) rfl (show mcode 371 844 = some (844, .aload_n 1, 1, 0, 0, 0, _) from rfl) (Or.inl ⟨.ref 0, rfl, rfl⟩) ?_
  refine lw_ld (pc := 845) (n := 1) rfl rfl rfl rfl rfl (by decide) hi0 hi1 hL ?_
  refine XW.call (d' := 41) (mc' := 0) (ms' := 0) (av := [.ref 0, .int (xs (i + Int32.ofInt 1).toNatClampNeg)]) (rest := []) (M := mr_371) (Ma := mr_73) rfl (show mcode 371 850 = some (850, .invokevirtual 81, 3, 73, 0, 0, _) from rfl) rfl (by decide) (by decide) ⟨rfl, 0, _, rfl, (iv_cell hw).1⟩ rfl rfl (show _ ≤ 8 by decide) (kk_31 [.ref 0, .int (xs (i + Int32.ofInt 1).toNatClampNeg)] w hw ⟨rfl, any32 _, trivial⟩ (fun q hq => by cases hq) hf) (by decide) (by omega) (by omega) (fun r1 w1 hQ1 => ?_)
  obtain ⟨hf1, hw1, hI1, ⟨x1, rfl, -, -⟩, -⟩ := hQ1
  have c1_0 : w1.2.1 1 1 = w.2.1 1 1 := hI1 1 1 rfl
  have m1_0 : w1.2.1 94 2 = w.2.1 94 2 := hI1 94 2 rfl
  have c1_1 : w1.2.1 1 0 = w.2.1 1 0 := hI1 1 0 rfl
  have m1_1 : w1.2.1 94 1 = w.2.1 94 1 := hI1 94 1 rfl
  have c1_2 : w1.2.1 41 0 = w.2.1 41 0 := hI1 41 0 rfl
  have m1_2 : w1.2.1 94 34 = w.2.1 94 34 := hI1 94 34 rfl
  have c1_3 : ∀ k, w1.2.1 42 k = w.2.1 42 k := fun k => hI1 42 k rfl
  have m1_3 : ∀ k, w1.2.1 122 k = w.2.1 122 k := fun k => hI1 122 k rfl
  have c1_4 : w1.2.1 47 3 = w.2.1 47 3 := hI1 47 3 rfl
  have m1_4 : w1.2.1 94 35 = w.2.1 94 35 := hI1 94 35 rfl
  have c1_5 : ∀ k, w1.2.1 48 k = w.2.1 48 k := fun k => hI1 48 k rfl
  have m1_5 : ∀ k, w1.2.1 123 k = w.2.1 123 k := fun k => hI1 123 k rfl
  have c1_6 : ∀ k, w1.2.1 49 k = w.2.1 49 k := fun k => hI1 49 k rfl
  have m1_6 : ∀ k, w1.2.1 124 k = w.2.1 124 k := fun k => hI1 124 k rfl
  have y1_7_0 : ∀ k, w1.2.1 5 k = w.2.1 5 k := fun k => hI1 5 k rfl
  have y1_7_1 : ∀ k, w1.2.1 98 k = w.2.1 98 k := fun k => hI1 98 k rfl
  have y1_7_2 : ∀ k, w1.2.1 8 k = w.2.1 8 k := fun k => hI1 8 k rfl
  have y1_7_3 : ∀ k, w1.2.1 102 k = w.2.1 102 k := fun k => hI1 102 k rfl
  have y1_7_4 : w1.2.1 1 1 = w.2.1 1 1 := hI1 1 1 rfl
  refine XW.fam (S' := (854, [(3, .int i), (2, .ref 94), (1, .ref 0), (0, .retAddr 0)], [], w1)) (M := mr_371) rfl (show mcode 371 853 = some (853, .pop, 1, 0, 0, 0, _) from rfl) (Or.inr (Or.inr (Or.inr (Or.inr (Or.inr (Or.inl ⟨_, rfl, rfl⟩)))))) ?_
  refine XW.fam (S' := (855, [(3, .int i), (2, .ref 94), (1, .ref 0), (0, .retAddr 0)], [.ref 94], w1)) (M := mr_371) rfl (show mcode 371 854 = some (854, .aload_n 2, 1, 0, 0, 0, _) from rfl) (Or.inl ⟨.ref 94, rfl, rfl⟩) ?_
  refine lw_ld (pc := 855) (n := 1) rfl rfl rfl rfl rfl (by decide) hi0 hi1 hL ?_
  refine XW.call (d' := 41) (mc' := 0) (ms' := 0) (av := [.ref 94, .int (xs (i + Int32.ofInt 1).toNatClampNeg)]) (rest := []) (M := mr_371) (Ma := mr_268) rfl (show mcode 371 860 = some (860, .invokevirtual 84, 3, 268, 0, 0, _) from rfl) rfl (by decide) (by decide) ⟨rfl, 94, _, rfl, (iv_cell hw1).2⟩ rfl rfl (show _ ≤ 8 by decide) (kk_248 [.ref 94, .int (xs (i + Int32.ofInt 1).toNatClampNeg)] w1 hw1 ⟨rfl, any32 _, trivial⟩ (fun q hq => by cases hq) hf1) (by decide) (by omega) (by omega) (fun r2 w2 hQ2 => ?_)
  obtain ⟨hf2, hw2, hI2, ⟨x2, rfl, -, -⟩, -⟩ := hQ2
  have c2_0 : w2.2.1 1 1 = w1.2.1 1 1 := hI2 1 1 rfl
  have m2_0 : w2.2.1 94 2 = w1.2.1 94 2 := hI2 94 2 rfl
  have c2_1 : w2.2.1 1 0 = w1.2.1 1 0 := hI2 1 0 rfl
  have m2_1 : w2.2.1 94 1 = w1.2.1 94 1 := hI2 94 1 rfl
  have c2_2 : w2.2.1 41 0 = w1.2.1 41 0 := hI2 41 0 rfl
  have m2_2 : w2.2.1 94 34 = w1.2.1 94 34 := hI2 94 34 rfl
  have c2_3 : ∀ k, w2.2.1 42 k = w1.2.1 42 k := fun k => hI2 42 k rfl
  have m2_3 : ∀ k, w2.2.1 122 k = w1.2.1 122 k := fun k => hI2 122 k rfl
  have c2_4 : w2.2.1 47 3 = w1.2.1 47 3 := hI2 47 3 rfl
  have m2_4 : w2.2.1 94 35 = w1.2.1 94 35 := hI2 94 35 rfl
  have c2_5 : ∀ k, w2.2.1 48 k = w1.2.1 48 k := fun k => hI2 48 k rfl
  have m2_5 : ∀ k, w2.2.1 123 k = w1.2.1 123 k := fun k => hI2 123 k rfl
  have c2_6 : ∀ k, w2.2.1 49 k = w1.2.1 49 k := fun k => hI2 49 k rfl
  have m2_6 : ∀ k, w2.2.1 124 k = w1.2.1 124 k := fun k => hI2 124 k rfl
  have y2_7_0 : ∀ k, w2.2.1 5 k = w1.2.1 5 k := fun k => hI2 5 k rfl
  have y2_7_1 : ∀ k, w2.2.1 98 k = w1.2.1 98 k := fun k => hI2 98 k rfl
  have y2_7_2 : ∀ k, w2.2.1 8 k = w1.2.1 8 k := fun k => hI2 8 k rfl
  have y2_7_3 : ∀ k, w2.2.1 102 k = w1.2.1 102 k := fun k => hI2 102 k rfl
  have y2_7_4 : w2.2.1 1 1 = w1.2.1 1 1 := hI2 1 1 rfl
  refine XW.fam (S' := (864, [(3, .int i), (2, .ref 94), (1, .ref 0), (0, .retAddr 0)], [], w2)) (M := mr_371) rfl (show mcode 371 863 = some (863, .pop, 1, 0, 0, 0, _) from rfl) (Or.inr (Or.inr (Or.inr (Or.inr (Or.inr (Or.inl ⟨_, rfl, rfl⟩)))))) ?_
  refine XW.fam (S' := (2217, [(3, .int i), (2, .ref 94), (1, .ref 0), (0, .retAddr 0)], [], w2)) (M := mr_371) rfl (show mcode 371 864 = some (864, .goto 1353, 3, 2217, 0, 0, _) from rfl) (Or.inr (Or.inl ⟨2217, [], rfl, rfl⟩)) ?_
  exact XW.wid (mc := mc) (ms := ms) (by omega) (by omega) (K w2 ⟨hf2, ⟨_, _, hw2⟩, ⟨(c2_0.trans c1_0).trans (hv.1.trans (m1_0.symm.trans m2_0.symm)), (c2_1.trans c1_1).trans (hv.2.1.trans (m1_1.symm.trans m2_1.symm)), (c2_2.trans c1_2).trans (hv.2.2.1.trans (m1_2.symm.trans m2_2.symm)), fun k => ((c2_3 k).trans (c1_3 k)).trans ((hv.2.2.2.1 k).trans ((m1_3 k).symm.trans (m2_3 k).symm)), (c2_4.trans c1_4).trans (hv.2.2.2.2.1.trans (m1_4.symm.trans m2_4.symm)), fun k => ((c2_5 k).trans (c1_5 k)).trans ((hv.2.2.2.2.2.1 k).trans ((m1_5 k).symm.trans (m2_5 k).symm)), fun k => ((c2_6 k).trans (c1_6 k)).trans ((hv.2.2.2.2.2.2.1 k).trans ((m1_6 k).symm.trans (m2_6 k).symm)), RLf_keep (fun k => (y2_7_0 k).trans (y1_7_0 k)) (fun k => (y2_7_1 k).trans (y1_7_1 k)) (fun k => (y2_7_2 k).trans (y1_7_2 k)) (fun k => (y2_7_3 k).trans (y1_7_3 k)) (y2_7_4.trans y1_7_4) hv.2.2.2.2.2.2.2⟩⟩)
set_option maxRecDepth 100000 in
theorem case_17 {Ln : Nat} {xs : Nat → Int32} {mc ms : Nat} {w : mW} {i : Int32} (hi0 : 0 ≤ i.toInt) (hi1 : i.toInt + 6 ≤ Ln) (hL : Ln ≤ 3072) (hV : IV w) (K : ∀ w', IV w' → XW 371 mr_371 (some (Ln, xs)) 91 mc ms Qone (2217, [(3, .int i), (2, .ref 94), (1, .ref 0), (0, .retAddr 0)], [], w')) : XW 371 mr_371 (some (Ln, xs)) 91 (mc + 1) (ms + 240) Qone (867, [(3, .int i), (2, .ref 94), (1, .ref 0), (0, .retAddr 0)], [], w) := by
  obtain ⟨hf, ⟨sh, R, hw⟩, hv⟩ := hV
  refine XW.fam (S' := (868, [(3, .int i), (2, .ref 94), (1, .ref 0), (0, .retAddr 0)], [.ref 0], w)) (M := mr_371) rfl (show mcode 371 867 = some (867, .aload_n 1, 1, 0, 0, 0, _) from rfl) (Or.inl ⟨.ref 0, rfl, rfl⟩) ?_
  refine lw_ld (pc := 868) (n := 1) rfl rfl rfl rfl rfl (by decide) hi0 hi1 hL ?_
  refine lw_ld (pc := 873) (n := 2) rfl rfl rfl rfl rfl (by decide) hi0 hi1 hL ?_
  refine lw_ld (pc := 878) (n := 3) rfl rfl rfl rfl rfl (by decide) hi0 hi1 hL ?_
  refine lw_ld (pc := 883) (n := 4) rfl rfl rfl rfl rfl (by decide) hi0 hi1 hL ?_
  refine XW.call (d' := 46) (mc' := 0) (ms' := 0) (av := [.ref 0, .int (xs (i + Int32.ofInt 1).toNatClampNeg), .int (xs (i + Int32.ofInt 2).toNatClampNeg), .int (xs (i + Int32.ofInt 3).toNatClampNeg), .int (xs (i + Int32.ofInt 4).toNatClampNeg)]) (rest := []) (M := mr_371) (Ma := mr_75) rfl (show mcode 371 888 = some (888, .invokevirtual 85, 3, 75, 0, 0, _) from rfl) rfl (by decide) (by decide) ⟨rfl, 0, _, rfl, (iv_cell hw).1⟩ rfl rfl (show _ ≤ 8 by decide) (kk_35 [.ref 0, .int (xs (i + Int32.ofInt 1).toNatClampNeg), .int (xs (i + Int32.ofInt 2).toNatClampNeg), .int (xs (i + Int32.ofInt 3).toNatClampNeg), .int (xs (i + Int32.ofInt 4).toNatClampNeg)] w hw ⟨rfl, any32 _, any32 _, any32 _, any32 _, trivial⟩ (fun q hq => by cases hq) hf) (by decide) (by omega) (by omega) (fun r1 w1 hQ1 => ?_)
  obtain ⟨hf1, hw1, hI1, ⟨x1, rfl, -, -⟩, -⟩ := hQ1
  have c1_0 : w1.2.1 1 1 = w.2.1 1 1 := hI1 1 1 rfl
  have m1_0 : w1.2.1 94 2 = w.2.1 94 2 := hI1 94 2 rfl
  have c1_1 : w1.2.1 1 0 = w.2.1 1 0 := hI1 1 0 rfl
  have m1_1 : w1.2.1 94 1 = w.2.1 94 1 := hI1 94 1 rfl
  have c1_2 : w1.2.1 41 0 = w.2.1 41 0 := hI1 41 0 rfl
  have m1_2 : w1.2.1 94 34 = w.2.1 94 34 := hI1 94 34 rfl
  have c1_3 : ∀ k, w1.2.1 42 k = w.2.1 42 k := fun k => hI1 42 k rfl
  have m1_3 : ∀ k, w1.2.1 122 k = w.2.1 122 k := fun k => hI1 122 k rfl
  have c1_4 : w1.2.1 47 3 = w.2.1 47 3 := hI1 47 3 rfl
  have m1_4 : w1.2.1 94 35 = w.2.1 94 35 := hI1 94 35 rfl
  have c1_5 : ∀ k, w1.2.1 48 k = w.2.1 48 k := fun k => hI1 48 k rfl
  have m1_5 : ∀ k, w1.2.1 123 k = w.2.1 123 k := fun k => hI1 123 k rfl
  have c1_6 : ∀ k, w1.2.1 49 k = w.2.1 49 k := fun k => hI1 49 k rfl
  have m1_6 : ∀ k, w1.2.1 124 k = w.2.1 124 k := fun k => hI1 124 k rfl
  have y1_7_0 : ∀ k, w1.2.1 5 k = w.2.1 5 k := fun k => hI1 5 k rfl
  have y1_7_1 : ∀ k, w1.2.1 98 k = w.2.1 98 k := fun k => hI1 98 k rfl
  have y1_7_2 : ∀ k, w1.2.1 8 k = w.2.1 8 k := fun k => hI1 8 k rfl
  have y1_7_3 : ∀ k, w1.2.1 102 k = w.2.1 102 k := fun k => hI1 102 k rfl
  have y1_7_4 : w1.2.1 1 1 = w.2.1 1 1 := hI1 1 1 rfl
  refine XW.fam (S' := (892, [(3, .int i), (2, .ref 94), (1, .ref 0), (0, .retAddr 0)], [], w1)) (M := mr_371) rfl (show mcode 371 891 = some (891, .pop, 1, 0, 0, 0, _) from rfl) (Or.inr (Or.inr (Or.inr (Or.inr (Or.inr (Or.inl ⟨_, rfl, rfl⟩)))))) ?_
  refine XW.fam (S' := (893, [(3, .int i), (2, .ref 94), (1, .ref 0), (0, .retAddr 0)], [.ref 94], w1)) (M := mr_371) rfl (show mcode 371 892 = some (892, .aload_n 2, 1, 0, 0, 0, _) from rfl) (Or.inl ⟨.ref 94, rfl, rfl⟩) ?_
  refine lw_ld (pc := 893) (n := 1) rfl rfl rfl rfl rfl (by decide) hi0 hi1 hL ?_
  refine lw_ld (pc := 898) (n := 2) rfl rfl rfl rfl rfl (by decide) hi0 hi1 hL ?_
  refine lw_ld (pc := 903) (n := 3) rfl rfl rfl rfl rfl (by decide) hi0 hi1 hL ?_
  refine lw_ld (pc := 908) (n := 4) rfl rfl rfl rfl rfl (by decide) hi0 hi1 hL ?_
  refine XW.call (d' := 44) (mc' := 0) (ms' := 0) (av := [.ref 94, .int (xs (i + Int32.ofInt 1).toNatClampNeg), .int (xs (i + Int32.ofInt 2).toNatClampNeg), .int (xs (i + Int32.ofInt 3).toNatClampNeg), .int (xs (i + Int32.ofInt 4).toNatClampNeg)]) (rest := []) (M := mr_371) (Ma := mr_270) rfl (show mcode 371 913 = some (913, .invokevirtual 88, 3, 270, 0, 0, _) from rfl) rfl (by decide) (by decide) ⟨rfl, 94, _, rfl, (iv_cell hw1).2⟩ rfl rfl (show _ ≤ 8 by decide) (kk_251 [.ref 94, .int (xs (i + Int32.ofInt 1).toNatClampNeg), .int (xs (i + Int32.ofInt 2).toNatClampNeg), .int (xs (i + Int32.ofInt 3).toNatClampNeg), .int (xs (i + Int32.ofInt 4).toNatClampNeg)] w1 hw1 ⟨rfl, any32 _, any32 _, any32 _, any32 _, trivial⟩ (fun q hq => by cases hq) hf1) (by decide) (by omega) (by omega) (fun r2 w2 hQ2 => ?_)
  obtain ⟨hf2, hw2, hI2, ⟨x2, rfl, -, -⟩, -⟩ := hQ2
  have c2_0 : w2.2.1 1 1 = w1.2.1 1 1 := hI2 1 1 rfl
  have m2_0 : w2.2.1 94 2 = w1.2.1 94 2 := hI2 94 2 rfl
  have c2_1 : w2.2.1 1 0 = w1.2.1 1 0 := hI2 1 0 rfl
  have m2_1 : w2.2.1 94 1 = w1.2.1 94 1 := hI2 94 1 rfl
  have c2_2 : w2.2.1 41 0 = w1.2.1 41 0 := hI2 41 0 rfl
  have m2_2 : w2.2.1 94 34 = w1.2.1 94 34 := hI2 94 34 rfl
  have c2_3 : ∀ k, w2.2.1 42 k = w1.2.1 42 k := fun k => hI2 42 k rfl
  have m2_3 : ∀ k, w2.2.1 122 k = w1.2.1 122 k := fun k => hI2 122 k rfl
  have c2_4 : w2.2.1 47 3 = w1.2.1 47 3 := hI2 47 3 rfl
  have m2_4 : w2.2.1 94 35 = w1.2.1 94 35 := hI2 94 35 rfl
  have c2_5 : ∀ k, w2.2.1 48 k = w1.2.1 48 k := fun k => hI2 48 k rfl
  have m2_5 : ∀ k, w2.2.1 123 k = w1.2.1 123 k := fun k => hI2 123 k rfl
  have c2_6 : ∀ k, w2.2.1 49 k = w1.2.1 49 k := fun k => hI2 49 k rfl
  have m2_6 : ∀ k, w2.2.1 124 k = w1.2.1 124 k := fun k => hI2 124 k rfl
  have y2_7_0 : ∀ k, w2.2.1 5 k = w1.2.1 5 k := fun k => hI2 5 k rfl
  have y2_7_1 : ∀ k, w2.2.1 98 k = w1.2.1 98 k := fun k => hI2 98 k rfl
  have y2_7_2 : ∀ k, w2.2.1 8 k = w1.2.1 8 k := fun k => hI2 8 k rfl
  have y2_7_3 : ∀ k, w2.2.1 102 k = w1.2.1 102 k := fun k => hI2 102 k rfl
  have y2_7_4 : w2.2.1 1 1 = w1.2.1 1 1 := hI2 1 1 rfl
  refine XW.fam (S' := (917, [(3, .int i), (2, .ref 94), (1, .ref 0), (0, .retAddr 0)], [], w2)) (M := mr_371) rfl (show mcode 371 916 = some (916, .pop, 1, 0, 0, 0, _) from rfl) (Or.inr (Or.inr (Or.inr (Or.inr (Or.inr (Or.inl ⟨_, rfl, rfl⟩)))))) ?_
  refine XW.fam (S' := (2217, [(3, .int i), (2, .ref 94), (1, .ref 0), (0, .retAddr 0)], [], w2)) (M := mr_371) rfl (show mcode 371 917 = some (917, .goto 1300, 3, 2217, 0, 0, _) from rfl) (Or.inr (Or.inl ⟨2217, [], rfl, rfl⟩)) ?_
  exact XW.wid (mc := mc) (ms := ms) (by omega) (by omega) (K w2 ⟨hf2, ⟨_, _, hw2⟩, ⟨(c2_0.trans c1_0).trans (hv.1.trans (m1_0.symm.trans m2_0.symm)), (c2_1.trans c1_1).trans (hv.2.1.trans (m1_1.symm.trans m2_1.symm)), (c2_2.trans c1_2).trans (hv.2.2.1.trans (m1_2.symm.trans m2_2.symm)), fun k => ((c2_3 k).trans (c1_3 k)).trans ((hv.2.2.2.1 k).trans ((m1_3 k).symm.trans (m2_3 k).symm)), (c2_4.trans c1_4).trans (hv.2.2.2.2.1.trans (m1_4.symm.trans m2_4.symm)), fun k => ((c2_5 k).trans (c1_5 k)).trans ((hv.2.2.2.2.2.1 k).trans ((m1_5 k).symm.trans (m2_5 k).symm)), fun k => ((c2_6 k).trans (c1_6 k)).trans ((hv.2.2.2.2.2.2.1 k).trans ((m1_6 k).symm.trans (m2_6 k).symm)), RLf_keep (fun k => (y2_7_0 k).trans (y1_7_0 k)) (fun k => (y2_7_1 k).trans (y1_7_1 k)) (fun k => (y2_7_2 k).trans (y1_7_2 k)) (fun k => (y2_7_3 k).trans (y1_7_3 k)) (y2_7_4.trans y1_7_4) hv.2.2.2.2.2.2.2⟩⟩)
set_option maxRecDepth 100000 in
theorem case_18 {Ln : Nat} {xs : Nat → Int32} {mc ms : Nat} {w : mW} {i : Int32} (hi0 : 0 ≤ i.toInt) (hi1 : i.toInt + 6 ≤ Ln) (hL : Ln ≤ 3072) (hV : IV w) (K : ∀ w', IV w' → XW 371 mr_371 (some (Ln, xs)) 91 mc ms Qone (2217, [(3, .int i), (2, .ref 94), (1, .ref 0), (0, .retAddr 0)], [], w')) : XW 371 mr_371 (some (Ln, xs)) 91 (mc + 1) (ms + 240) Qone (920, [(3, .int i), (2, .ref 94), (1, .ref 0), (0, .retAddr 0)], [], w) := by
  obtain ⟨hf, ⟨sh, R, hw⟩, hv⟩ := hV
  refine XW.fam (S' := (921, [(3, .int i), (2, .ref 94), (1, .ref 0), (0, .retAddr 0)], [.ref 0], w)) (M := mr_371) rfl (show mcode 371 920 = some (920, .aload_n 1, 1, 0, 0, 0, _) from rfl) (Or.inl ⟨.ref 0, rfl, rfl⟩) ?_
  refine lw_ld (pc := 921) (n := 1) rfl rfl rfl rfl rfl (by decide) hi0 hi1 hL ?_
  refine XW.call (d' := 41) (mc' := 0) (ms' := 0) (av := [.ref 0, .int (xs (i + Int32.ofInt 1).toNatClampNeg)]) (rest := []) (M := mr_371) (Ma := mr_87) rfl (show mcode 371 926 = some (926, .invokevirtual 89, 3, 87, 0, 0, _) from rfl) rfl (by decide) (by decide) ⟨rfl, 0, _, rfl, (iv_cell hw).1⟩ rfl rfl (show _ ≤ 8 by decide) (kk_36 [.ref 0, .int (xs (i + Int32.ofInt 1).toNatClampNeg)] w hw ⟨rfl, any32 _, trivial⟩ (fun q hq => by cases hq) hf) (by decide) (by omega) (by omega) (fun r1 w1 hQ1 => ?_)
  obtain ⟨hf1, hw1, hI1, ⟨x1, rfl, -, -⟩, -⟩ := hQ1
  have c1_0 : w1.2.1 1 1 = w.2.1 1 1 := hI1 1 1 rfl
  have m1_0 : w1.2.1 94 2 = w.2.1 94 2 := hI1 94 2 rfl
  have c1_1 : w1.2.1 1 0 = w.2.1 1 0 := hI1 1 0 rfl
  have m1_1 : w1.2.1 94 1 = w.2.1 94 1 := hI1 94 1 rfl
  have c1_2 : w1.2.1 41 0 = w.2.1 41 0 := hI1 41 0 rfl
  have m1_2 : w1.2.1 94 34 = w.2.1 94 34 := hI1 94 34 rfl
  have c1_3 : ∀ k, w1.2.1 42 k = w.2.1 42 k := fun k => hI1 42 k rfl
  have m1_3 : ∀ k, w1.2.1 122 k = w.2.1 122 k := fun k => hI1 122 k rfl
  have c1_4 : w1.2.1 47 3 = w.2.1 47 3 := hI1 47 3 rfl
  have m1_4 : w1.2.1 94 35 = w.2.1 94 35 := hI1 94 35 rfl
  have c1_5 : ∀ k, w1.2.1 48 k = w.2.1 48 k := fun k => hI1 48 k rfl
  have m1_5 : ∀ k, w1.2.1 123 k = w.2.1 123 k := fun k => hI1 123 k rfl
  have c1_6 : ∀ k, w1.2.1 49 k = w.2.1 49 k := fun k => hI1 49 k rfl
  have m1_6 : ∀ k, w1.2.1 124 k = w.2.1 124 k := fun k => hI1 124 k rfl
  have y1_7_0 : ∀ k, w1.2.1 5 k = w.2.1 5 k := fun k => hI1 5 k rfl
  have y1_7_1 : ∀ k, w1.2.1 98 k = w.2.1 98 k := fun k => hI1 98 k rfl
  have y1_7_2 : ∀ k, w1.2.1 8 k = w.2.1 8 k := fun k => hI1 8 k rfl
  have y1_7_3 : ∀ k, w1.2.1 102 k = w.2.1 102 k := fun k => hI1 102 k rfl
  have y1_7_4 : w1.2.1 1 1 = w.2.1 1 1 := hI1 1 1 rfl
  refine XW.fam (S' := (930, [(3, .int i), (2, .ref 94), (1, .ref 0), (0, .retAddr 0)], [], w1)) (M := mr_371) rfl (show mcode 371 929 = some (929, .pop, 1, 0, 0, 0, _) from rfl) (Or.inr (Or.inr (Or.inr (Or.inr (Or.inr (Or.inl ⟨_, rfl, rfl⟩)))))) ?_
  refine XW.fam (S' := (931, [(3, .int i), (2, .ref 94), (1, .ref 0), (0, .retAddr 0)], [.ref 94], w1)) (M := mr_371) rfl (show mcode 371 930 = some (930, .aload_n 2, 1, 0, 0, 0, _) from rfl) (Or.inl ⟨.ref 94, rfl, rfl⟩) ?_
  refine lw_ld (pc := 931) (n := 1) rfl rfl rfl rfl rfl (by decide) hi0 hi1 hL ?_
  refine XW.call (d' := 41) (mc' := 0) (ms' := 0) (av := [.ref 94, .int (xs (i + Int32.ofInt 1).toNatClampNeg)]) (rest := []) (M := mr_371) (Ma := mr_269) rfl (show mcode 371 936 = some (936, .invokevirtual 92, 3, 269, 0, 0, _) from rfl) rfl (by decide) (by decide) ⟨rfl, 94, _, rfl, (iv_cell hw1).2⟩ rfl rfl (show _ ≤ 8 by decide) (kk_249 [.ref 94, .int (xs (i + Int32.ofInt 1).toNatClampNeg)] w1 hw1 ⟨rfl, any32 _, trivial⟩ (fun q hq => by cases hq) hf1) (by decide) (by omega) (by omega) (fun r2 w2 hQ2 => ?_)
  obtain ⟨hf2, hw2, hI2, ⟨x2, rfl, -, -⟩, -⟩ := hQ2
  have c2_0 : w2.2.1 1 1 = w1.2.1 1 1 := hI2 1 1 rfl
  have m2_0 : w2.2.1 94 2 = w1.2.1 94 2 := hI2 94 2 rfl
  have c2_1 : w2.2.1 1 0 = w1.2.1 1 0 := hI2 1 0 rfl
  have m2_1 : w2.2.1 94 1 = w1.2.1 94 1 := hI2 94 1 rfl
  have c2_2 : w2.2.1 41 0 = w1.2.1 41 0 := hI2 41 0 rfl
  have m2_2 : w2.2.1 94 34 = w1.2.1 94 34 := hI2 94 34 rfl
  have c2_3 : ∀ k, w2.2.1 42 k = w1.2.1 42 k := fun k => hI2 42 k rfl
  have m2_3 : ∀ k, w2.2.1 122 k = w1.2.1 122 k := fun k => hI2 122 k rfl
  have c2_4 : w2.2.1 47 3 = w1.2.1 47 3 := hI2 47 3 rfl
  have m2_4 : w2.2.1 94 35 = w1.2.1 94 35 := hI2 94 35 rfl
  have c2_5 : ∀ k, w2.2.1 48 k = w1.2.1 48 k := fun k => hI2 48 k rfl
  have m2_5 : ∀ k, w2.2.1 123 k = w1.2.1 123 k := fun k => hI2 123 k rfl
  have c2_6 : ∀ k, w2.2.1 49 k = w1.2.1 49 k := fun k => hI2 49 k rfl
  have m2_6 : ∀ k, w2.2.1 124 k = w1.2.1 124 k := fun k => hI2 124 k rfl
  have y2_7_0 : ∀ k, w2.2.1 5 k = w1.2.1 5 k := fun k => hI2 5 k rfl
  have y2_7_1 : ∀ k, w2.2.1 98 k = w1.2.1 98 k := fun k => hI2 98 k rfl
  have y2_7_2 : ∀ k, w2.2.1 8 k = w1.2.1 8 k := fun k => hI2 8 k rfl
  have y2_7_3 : ∀ k, w2.2.1 102 k = w1.2.1 102 k := fun k => hI2 102 k rfl
  have y2_7_4 : w2.2.1 1 1 = w1.2.1 1 1 := hI2 1 1 rfl
  refine XW.fam (S' := (940, [(3, .int i), (2, .ref 94), (1, .ref 0), (0, .retAddr 0)], [], w2)) (M := mr_371) rfl (show mcode 371 939 = some (939, .pop, 1, 0, 0, 0, _) from rfl) (Or.inr (Or.inr (Or.inr (Or.inr (Or.inr (Or.inl ⟨_, rfl, rfl⟩)))))) ?_
  refine XW.fam (S' := (2217, [(3, .int i), (2, .ref 94), (1, .ref 0), (0, .retAddr 0)], [], w2)) (M := mr_371) rfl (show mcode 371 940 = some (940, .goto 1277, 3, 2217, 0, 0, _) from rfl) (Or.inr (Or.inl ⟨2217, [], rfl, rfl⟩)) ?_
  exact XW.wid (mc := mc) (ms := ms) (by omega) (by omega) (K w2 ⟨hf2, ⟨_, _, hw2⟩, ⟨(c2_0.trans c1_0).trans (hv.1.trans (m1_0.symm.trans m2_0.symm)), (c2_1.trans c1_1).trans (hv.2.1.trans (m1_1.symm.trans m2_1.symm)), (c2_2.trans c1_2).trans (hv.2.2.1.trans (m1_2.symm.trans m2_2.symm)), fun k => ((c2_3 k).trans (c1_3 k)).trans ((hv.2.2.2.1 k).trans ((m1_3 k).symm.trans (m2_3 k).symm)), (c2_4.trans c1_4).trans (hv.2.2.2.2.1.trans (m1_4.symm.trans m2_4.symm)), fun k => ((c2_5 k).trans (c1_5 k)).trans ((hv.2.2.2.2.2.1 k).trans ((m1_5 k).symm.trans (m2_5 k).symm)), fun k => ((c2_6 k).trans (c1_6 k)).trans ((hv.2.2.2.2.2.2.1 k).trans ((m1_6 k).symm.trans (m2_6 k).symm)), RLf_keep (fun k => (y2_7_0 k).trans (y1_7_0 k)) (fun k => (y2_7_1 k).trans (y1_7_1 k)) (fun k => (y2_7_2 k).trans (y1_7_2 k)) (fun k => (y2_7_3 k).trans (y1_7_3 k)) (y2_7_4.trans y1_7_4) hv.2.2.2.2.2.2.2⟩⟩)
set_option maxRecDepth 100000 in
theorem case_19 {Ln : Nat} {xs : Nat → Int32} {mc ms : Nat} {w : mW} {i : Int32} (hi0 : 0 ≤ i.toInt) (hi1 : i.toInt + 6 ≤ Ln) (hL : Ln ≤ 3072) (hV : IV w) (K : ∀ w', IV w' → XW 371 mr_371 (some (Ln, xs)) 91 mc ms Qone (2217, [(3, .int i), (2, .ref 94), (1, .ref 0), (0, .retAddr 0)], [], w')) : XW 371 mr_371 (some (Ln, xs)) 91 (mc + 1) (ms + 240) Qone (943, [(3, .int i), (2, .ref 94), (1, .ref 0), (0, .retAddr 0)], [], w) := by
  obtain ⟨hf, ⟨sh, R, hw⟩, hv⟩ := hV
  refine XW.fam (S' := (944, [(3, .int i), (2, .ref 94), (1, .ref 0), (0, .retAddr 0)], [.ref 0], w)) (M := mr_371) rfl (show mcode 371 943 = some (943, .aload_n 1, 1, 0, 0, 0, _) from rfl) (Or.inl ⟨.ref 0, rfl, rfl⟩) ?_
  refine lw_ld (pc := 944) (n := 1) rfl rfl rfl rfl rfl (by decide) hi0 hi1 hL ?_
  refine lw_ld (pc := 949) (n := 2) rfl rfl rfl rfl rfl (by decide) hi0 hi1 hL ?_
  refine lw_ld (pc := 954) (n := 3) rfl rfl rfl rfl rfl (by decide) hi0 hi1 hL ?_
  refine lw_ld (pc := 959) (n := 4) rfl rfl rfl rfl rfl (by decide) hi0 hi1 hL ?_
  refine lw_ld (pc := 964) (n := 5) rfl rfl rfl rfl rfl (by decide) hi0 hi1 hL ?_
  refine XW.call (d' := 1) (mc' := 0) (ms' := 0) (av := [.ref 0, .int (xs (i + Int32.ofInt 1).toNatClampNeg), .int (xs (i + Int32.ofInt 2).toNatClampNeg), .int (xs (i + Int32.ofInt 3).toNatClampNeg), .int (xs (i + Int32.ofInt 4).toNatClampNeg), .int (xs (i + Int32.ofInt 5).toNatClampNeg)]) (rest := []) (M := mr_371) (Ma := mr_88) rfl (show mcode 371 969 = some (969, .invokevirtual 93, 3, 88, 0, 0, _) from rfl) rfl (by decide) (by decide) ⟨rfl, 0, _, rfl, (iv_cell hw).1⟩ rfl rfl (show (0 : Nat) ≤ 8 by decide) (tc_fedC (d := 0) hw hf) (by decide) (by omega) (by omega) (fun r1 w1 hQ1 => ?_)
  obtain ⟨x1, e1⟩ := Qfd_int hQ1
  subst e1
  obtain ⟨sh1, R1, hw1⟩ := hQ1.2.1
  refine XW.fam (S' := (973, [(3, .int i), (2, .ref 94), (1, .ref 0), (0, .retAddr 0)], [], w1)) (M := mr_371) rfl (show mcode 371 972 = some (972, .pop, 1, 0, 0, 0, _) from rfl) (Or.inr (Or.inr (Or.inr (Or.inr (Or.inr (Or.inl ⟨_, rfl, rfl⟩)))))) ?_
  refine XW.fam (S' := (974, [(3, .int i), (2, .ref 94), (1, .ref 0), (0, .retAddr 0)], [.ref 94], w1)) (M := mr_371) rfl (show mcode 371 973 = some (973, .aload_n 2, 1, 0, 0, 0, _) from rfl) (Or.inl ⟨.ref 94, rfl, rfl⟩) ?_
  refine lw_ld (pc := 974) (n := 1) rfl rfl rfl rfl rfl (by decide) hi0 hi1 hL ?_
  refine lw_ld (pc := 979) (n := 2) rfl rfl rfl rfl rfl (by decide) hi0 hi1 hL ?_
  refine lw_ld (pc := 984) (n := 3) rfl rfl rfl rfl rfl (by decide) hi0 hi1 hL ?_
  refine lw_ld (pc := 989) (n := 4) rfl rfl rfl rfl rfl (by decide) hi0 hi1 hL ?_
  refine lw_ld (pc := 994) (n := 5) rfl rfl rfl rfl rfl (by decide) hi0 hi1 hL ?_
  refine XW.call (d' := 1) (mc' := 0) (ms' := 0) (av := [.ref 94, .int (xs (i + Int32.ofInt 1).toNatClampNeg), .int (xs (i + Int32.ofInt 2).toNatClampNeg), .int (xs (i + Int32.ofInt 3).toNatClampNeg), .int (xs (i + Int32.ofInt 4).toNatClampNeg), .int (xs (i + Int32.ofInt 5).toNatClampNeg)]) (rest := []) (M := mr_371) (Ma := mr_274) rfl (show mcode 371 999 = some (999, .invokevirtual 97, 3, 274, 0, 0, _) from rfl) rfl (by decide) (by decide) ⟨rfl, 94, _, rfl, (iv_cell hw1).2⟩ rfl rfl (show (0 : Nat) ≤ 8 by decide) (tc_fedM (d := 0) hw1 hQ1.1) (by decide) (by omega) (by omega) (fun r2 w2 hQ2 => ?_)
  obtain ⟨x2, e2⟩ := Qfd_int hQ2
  subst e2
  obtain ⟨sh2, R2, hw2⟩ := hQ2.2.1
  have hl := fd_like hv.2.2.1 hv.2.2.2.1 hQ1 hQ2
  have c1_0 : w1.2.1 1 1 = w.2.1 1 1 := hQ1.2.2.2.1 1 1 rfl
  have c2_0 : w2.2.1 1 1 = w1.2.1 1 1 := hQ2.2.2.2.1 1 1 rfl
  have m1_0 : w1.2.1 94 2 = w.2.1 94 2 := hQ1.2.2.2.1 94 2 rfl
  have m2_0 : w2.2.1 94 2 = w1.2.1 94 2 := hQ2.2.2.2.1 94 2 rfl
  have c1_1 : w1.2.1 1 0 = w.2.1 1 0 := hQ1.2.2.2.1 1 0 rfl
  have c2_1 : w2.2.1 1 0 = w1.2.1 1 0 := hQ2.2.2.2.1 1 0 rfl
  have m1_1 : w1.2.1 94 1 = w.2.1 94 1 := hQ1.2.2.2.1 94 1 rfl
  have m2_1 : w2.2.1 94 1 = w1.2.1 94 1 := hQ2.2.2.2.1 94 1 rfl
  have c1_4 : w1.2.1 47 3 = w.2.1 47 3 := hQ1.2.2.2.1 47 3 rfl
  have c2_4 : w2.2.1 47 3 = w1.2.1 47 3 := hQ2.2.2.2.1 47 3 rfl
  have m1_4 : w1.2.1 94 35 = w.2.1 94 35 := hQ1.2.2.2.1 94 35 rfl
  have m2_4 : w2.2.1 94 35 = w1.2.1 94 35 := hQ2.2.2.2.1 94 35 rfl
  have c1_5 : ∀ k, w1.2.1 48 k = w.2.1 48 k := fun k => hQ1.2.2.2.1 48 k rfl
  have c2_5 : ∀ k, w2.2.1 48 k = w1.2.1 48 k := fun k => hQ2.2.2.2.1 48 k rfl
  have m1_5 : ∀ k, w1.2.1 123 k = w.2.1 123 k := fun k => hQ1.2.2.2.1 123 k rfl
  have m2_5 : ∀ k, w2.2.1 123 k = w1.2.1 123 k := fun k => hQ2.2.2.2.1 123 k rfl
  have c1_6 : ∀ k, w1.2.1 49 k = w.2.1 49 k := fun k => hQ1.2.2.2.1 49 k rfl
  have c2_6 : ∀ k, w2.2.1 49 k = w1.2.1 49 k := fun k => hQ2.2.2.2.1 49 k rfl
  have m1_6 : ∀ k, w1.2.1 124 k = w.2.1 124 k := fun k => hQ1.2.2.2.1 124 k rfl
  have m2_6 : ∀ k, w2.2.1 124 k = w1.2.1 124 k := fun k => hQ2.2.2.2.1 124 k rfl
  have y1_7_0 : ∀ k, w1.2.1 5 k = w.2.1 5 k := fun k => hQ1.2.2.2.1 5 k rfl
  have y1_7_1 : ∀ k, w1.2.1 98 k = w.2.1 98 k := fun k => hQ1.2.2.2.1 98 k rfl
  have y1_7_2 : ∀ k, w1.2.1 8 k = w.2.1 8 k := fun k => hQ1.2.2.2.1 8 k rfl
  have y1_7_3 : ∀ k, w1.2.1 102 k = w.2.1 102 k := fun k => hQ1.2.2.2.1 102 k rfl
  have y1_7_4 : w1.2.1 1 1 = w.2.1 1 1 := hQ1.2.2.2.1 1 1 rfl
  have y2_7_0 : ∀ k, w2.2.1 5 k = w1.2.1 5 k := fun k => hQ2.2.2.2.1 5 k rfl
  have y2_7_1 : ∀ k, w2.2.1 98 k = w1.2.1 98 k := fun k => hQ2.2.2.2.1 98 k rfl
  have y2_7_2 : ∀ k, w2.2.1 8 k = w1.2.1 8 k := fun k => hQ2.2.2.2.1 8 k rfl
  have y2_7_3 : ∀ k, w2.2.1 102 k = w1.2.1 102 k := fun k => hQ2.2.2.2.1 102 k rfl
  have y2_7_4 : w2.2.1 1 1 = w1.2.1 1 1 := hQ2.2.2.2.1 1 1 rfl
  have hv2 : RL w2 := ⟨(c2_0.trans c1_0).trans (hv.1.trans (m1_0.symm.trans m2_0.symm)), (c2_1.trans c1_1).trans (hv.2.1.trans (m1_1.symm.trans m2_1.symm)), hl.2.1, hl.2.2, (c2_4.trans c1_4).trans (hv.2.2.2.2.1.trans (m1_4.symm.trans m2_4.symm)), fun k => ((c2_5 k).trans (c1_5 k)).trans ((hv.2.2.2.2.2.1 k).trans ((m1_5 k).symm.trans (m2_5 k).symm)), fun k => ((c2_6 k).trans (c1_6 k)).trans ((hv.2.2.2.2.2.2.1 k).trans ((m1_6 k).symm.trans (m2_6 k).symm)), RLf_keep (fun k => (y2_7_0 k).trans (y1_7_0 k)) (fun k => (y2_7_1 k).trans (y1_7_1 k)) (fun k => (y2_7_2 k).trans (y1_7_2 k)) (fun k => (y2_7_3 k).trans (y1_7_3 k)) (y2_7_4.trans y1_7_4) hv.2.2.2.2.2.2.2⟩
  refine XW.fam (S' := (1003, [(3, .int i), (2, .ref 94), (1, .ref 0), (0, .retAddr 0)], [], w2)) (M := mr_371) rfl (show mcode 371 1002 = some (1002, .pop, 1, 0, 0, 0, _) from rfl) (Or.inr (Or.inr (Or.inr (Or.inr (Or.inr (Or.inl ⟨_, rfl, rfl⟩)))))) ?_
  refine XW.fam (S' := (2217, [(3, .int i), (2, .ref 94), (1, .ref 0), (0, .retAddr 0)], [], w2)) (M := mr_371) rfl (show mcode 371 1003 = some (1003, .goto 1214, 3, 2217, 0, 0, _) from rfl) (Or.inr (Or.inl ⟨2217, [], rfl, rfl⟩)) ?_
  exact XW.wid (mc := mc) (ms := ms) (by omega) (by omega) (K w2 ⟨hQ2.1, ⟨_, _, hw2⟩, hv2⟩)
set_option maxRecDepth 100000 in
theorem case_20 {Ln : Nat} {xs : Nat → Int32} {mc ms : Nat} {w : mW} {i : Int32} (hi0 : 0 ≤ i.toInt) (hi1 : i.toInt + 6 ≤ Ln) (hL : Ln ≤ 3072) (hV : IV w) (K : ∀ w', IV w' → XW 371 mr_371 (some (Ln, xs)) 91 mc ms Qone (2217, [(3, .int i), (2, .ref 94), (1, .ref 0), (0, .retAddr 0)], [], w')) : XW 371 mr_371 (some (Ln, xs)) 91 (mc + 1) (ms + 240) Qone (1006, [(3, .int i), (2, .ref 94), (1, .ref 0), (0, .retAddr 0)], [], w) := by
  obtain ⟨hf, ⟨sh, R, hw⟩, hv⟩ := hV
  refine XW.fam (S' := (1007, [(3, .int i), (2, .ref 94), (1, .ref 0), (0, .retAddr 0)], [.ref 0], w)) (M := mr_371) rfl (show mcode 371 1006 = some (1006, .aload_n 1, 1, 0, 0, 0, _) from rfl) (Or.inl ⟨.ref 0, rfl, rfl⟩) ?_
  refine lw_ld (pc := 1007) (n := 1) rfl rfl rfl rfl rfl (by decide) hi0 hi1 hL ?_
  refine XW.call (d' := 1) (mc' := 0) (ms' := 0) (av := [.ref 0, .int (xs (i + Int32.ofInt 1).toNatClampNeg)]) (rest := []) (M := mr_371) (Ma := mr_90) rfl (show mcode 371 1012 = some (1012, .invokevirtual 98, 3, 90, 0, 0, _) from rfl) rfl (by decide) (by decide) ⟨rfl, 0, _, rfl, (iv_cell hw).1⟩ rfl rfl (show (0 : Nat) ≤ 8 by decide) (tc_enC (d := 0) hw hf) (by decide) (by omega) (by omega) (fun r1 w1 hQ1 => ?_)
  obtain ⟨x1, e1⟩ := Qen_int hQ1
  subst e1
  obtain ⟨sh1, R1, hw1⟩ := hQ1.2.1
  refine XW.fam (S' := (1016, [(3, .int i), (2, .ref 94), (1, .ref 0), (0, .retAddr 0)], [], w1)) (M := mr_371) rfl (show mcode 371 1015 = some (1015, .pop, 1, 0, 0, 0, _) from rfl) (Or.inr (Or.inr (Or.inr (Or.inr (Or.inr (Or.inl ⟨_, rfl, rfl⟩)))))) ?_
  refine XW.fam (S' := (1017, [(3, .int i), (2, .ref 94), (1, .ref 0), (0, .retAddr 0)], [.ref 94], w1)) (M := mr_371) rfl (show mcode 371 1016 = some (1016, .aload_n 2, 1, 0, 0, 0, _) from rfl) (Or.inl ⟨.ref 94, rfl, rfl⟩) ?_
  refine lw_ld (pc := 1017) (n := 1) rfl rfl rfl rfl rfl (by decide) hi0 hi1 hL ?_
  refine XW.call (d' := 1) (mc' := 0) (ms' := 0) (av := [.ref 94, .int (xs (i + Int32.ofInt 1).toNatClampNeg)]) (rest := []) (M := mr_371) (Ma := mr_276) rfl (show mcode 371 1022 = some (1022, .invokevirtual 101, 3, 276, 0, 0, _) from rfl) rfl (by decide) (by decide) ⟨rfl, 94, _, rfl, (iv_cell hw1).2⟩ rfl rfl (show (0 : Nat) ≤ 8 by decide) (tc_enM (d := 0) hw1 hQ1.1) (by decide) (by omega) (by omega) (fun r2 w2 hQ2 => ?_)
  obtain ⟨x2, e2⟩ := Qen_int hQ2
  subst e2
  obtain ⟨sh2, R2, hw2⟩ := hQ2.2.1
  have hl := en_like hv.2.2.1 hQ1 hQ2
  have c1_0 : w1.2.1 1 1 = w.2.1 1 1 := hQ1.2.2.2.1 1 1 rfl
  have c2_0 : w2.2.1 1 1 = w1.2.1 1 1 := hQ2.2.2.2.1 1 1 rfl
  have m1_0 : w1.2.1 94 2 = w.2.1 94 2 := hQ1.2.2.2.1 94 2 rfl
  have m2_0 : w2.2.1 94 2 = w1.2.1 94 2 := hQ2.2.2.2.1 94 2 rfl
  have c1_1 : w1.2.1 1 0 = w.2.1 1 0 := hQ1.2.2.2.1 1 0 rfl
  have c2_1 : w2.2.1 1 0 = w1.2.1 1 0 := hQ2.2.2.2.1 1 0 rfl
  have m1_1 : w1.2.1 94 1 = w.2.1 94 1 := hQ1.2.2.2.1 94 1 rfl
  have m2_1 : w2.2.1 94 1 = w1.2.1 94 1 := hQ2.2.2.2.1 94 1 rfl
  have c1_3 : ∀ k, w1.2.1 42 k = w.2.1 42 k := fun k => hQ1.2.2.2.1 42 k rfl
  have c2_3 : ∀ k, w2.2.1 42 k = w1.2.1 42 k := fun k => hQ2.2.2.2.1 42 k rfl
  have m1_3 : ∀ k, w1.2.1 122 k = w.2.1 122 k := fun k => hQ1.2.2.2.1 122 k rfl
  have m2_3 : ∀ k, w2.2.1 122 k = w1.2.1 122 k := fun k => hQ2.2.2.2.1 122 k rfl
  have c1_4 : w1.2.1 47 3 = w.2.1 47 3 := hQ1.2.2.2.1 47 3 rfl
  have c2_4 : w2.2.1 47 3 = w1.2.1 47 3 := hQ2.2.2.2.1 47 3 rfl
  have m1_4 : w1.2.1 94 35 = w.2.1 94 35 := hQ1.2.2.2.1 94 35 rfl
  have m2_4 : w2.2.1 94 35 = w1.2.1 94 35 := hQ2.2.2.2.1 94 35 rfl
  have c1_5 : ∀ k, w1.2.1 48 k = w.2.1 48 k := fun k => hQ1.2.2.2.1 48 k rfl
  have c2_5 : ∀ k, w2.2.1 48 k = w1.2.1 48 k := fun k => hQ2.2.2.2.1 48 k rfl
  have m1_5 : ∀ k, w1.2.1 123 k = w.2.1 123 k := fun k => hQ1.2.2.2.1 123 k rfl
  have m2_5 : ∀ k, w2.2.1 123 k = w1.2.1 123 k := fun k => hQ2.2.2.2.1 123 k rfl
  have c1_6 : ∀ k, w1.2.1 49 k = w.2.1 49 k := fun k => hQ1.2.2.2.1 49 k rfl
  have c2_6 : ∀ k, w2.2.1 49 k = w1.2.1 49 k := fun k => hQ2.2.2.2.1 49 k rfl
  have m1_6 : ∀ k, w1.2.1 124 k = w.2.1 124 k := fun k => hQ1.2.2.2.1 124 k rfl
  have m2_6 : ∀ k, w2.2.1 124 k = w1.2.1 124 k := fun k => hQ2.2.2.2.1 124 k rfl
  have y1_7_0 : ∀ k, w1.2.1 5 k = w.2.1 5 k := fun k => hQ1.2.2.2.1 5 k rfl
  have y1_7_1 : ∀ k, w1.2.1 98 k = w.2.1 98 k := fun k => hQ1.2.2.2.1 98 k rfl
  have y1_7_2 : ∀ k, w1.2.1 8 k = w.2.1 8 k := fun k => hQ1.2.2.2.1 8 k rfl
  have y1_7_3 : ∀ k, w1.2.1 102 k = w.2.1 102 k := fun k => hQ1.2.2.2.1 102 k rfl
  have y1_7_4 : w1.2.1 1 1 = w.2.1 1 1 := hQ1.2.2.2.1 1 1 rfl
  have y2_7_0 : ∀ k, w2.2.1 5 k = w1.2.1 5 k := fun k => hQ2.2.2.2.1 5 k rfl
  have y2_7_1 : ∀ k, w2.2.1 98 k = w1.2.1 98 k := fun k => hQ2.2.2.2.1 98 k rfl
  have y2_7_2 : ∀ k, w2.2.1 8 k = w1.2.1 8 k := fun k => hQ2.2.2.2.1 8 k rfl
  have y2_7_3 : ∀ k, w2.2.1 102 k = w1.2.1 102 k := fun k => hQ2.2.2.2.1 102 k rfl
  have y2_7_4 : w2.2.1 1 1 = w1.2.1 1 1 := hQ2.2.2.2.1 1 1 rfl
  have hv2 : RL w2 := ⟨(c2_0.trans c1_0).trans (hv.1.trans (m1_0.symm.trans m2_0.symm)), (c2_1.trans c1_1).trans (hv.2.1.trans (m1_1.symm.trans m2_1.symm)), hl.2, fun k => ((c2_3 k).trans (c1_3 k)).trans ((hv.2.2.2.1 k).trans ((m1_3 k).symm.trans (m2_3 k).symm)), (c2_4.trans c1_4).trans (hv.2.2.2.2.1.trans (m1_4.symm.trans m2_4.symm)), fun k => ((c2_5 k).trans (c1_5 k)).trans ((hv.2.2.2.2.2.1 k).trans ((m1_5 k).symm.trans (m2_5 k).symm)), fun k => ((c2_6 k).trans (c1_6 k)).trans ((hv.2.2.2.2.2.2.1 k).trans ((m1_6 k).symm.trans (m2_6 k).symm)), RLf_keep (fun k => (y2_7_0 k).trans (y1_7_0 k)) (fun k => (y2_7_1 k).trans (y1_7_1 k)) (fun k => (y2_7_2 k).trans (y1_7_2 k)) (fun k => (y2_7_3 k).trans (y1_7_3 k)) (y2_7_4.trans y1_7_4) hv.2.2.2.2.2.2.2⟩
  refine XW.fam (S' := (1026, [(3, .int i), (2, .ref 94), (1, .ref 0), (0, .retAddr 0)], [], w2)) (M := mr_371) rfl (show mcode 371 1025 = some (1025, .pop, 1, 0, 0, 0, _) from rfl) (Or.inr (Or.inr (Or.inr (Or.inr (Or.inr (Or.inl ⟨_, rfl, rfl⟩)))))) ?_
  refine XW.fam (S' := (2217, [(3, .int i), (2, .ref 94), (1, .ref 0), (0, .retAddr 0)], [], w2)) (M := mr_371) rfl (show mcode 371 1026 = some (1026, .goto 1191, 3, 2217, 0, 0, _) from rfl) (Or.inr (Or.inl ⟨2217, [], rfl, rfl⟩)) ?_
  exact XW.wid (mc := mc) (ms := ms) (by omega) (by omega) (K w2 ⟨hQ2.1, ⟨_, _, hw2⟩, hv2⟩)
set_option maxRecDepth 100000 in
theorem case_21 {Ln : Nat} {xs : Nat → Int32} {mc ms : Nat} {w : mW} {i : Int32} (hi0 : 0 ≤ i.toInt) (hi1 : i.toInt + 6 ≤ Ln) (hL : Ln ≤ 3072) (hV : IV w) (K : ∀ w', IV w' → XW 371 mr_371 (some (Ln, xs)) 91 mc ms Qone (2217, [(3, .int i), (2, .ref 94), (1, .ref 0), (0, .retAddr 0)], [], w')) : XW 371 mr_371 (some (Ln, xs)) 91 (mc + 1) (ms + 240) Qone (1029, [(3, .int i), (2, .ref 94), (1, .ref 0), (0, .retAddr 0)], [], w) := by
  obtain ⟨hf, ⟨sh, R, hw⟩, hv⟩ := hV
  refine XW.fam (S' := (1030, [(3, .int i), (2, .ref 94), (1, .ref 0), (0, .retAddr 0)], [.ref 0], w)) (M := mr_371) rfl (show mcode 371 1029 = some (1029, .aload_n 1, 1, 0, 0, 0, _) from rfl) (Or.inl ⟨.ref 0, rfl, rfl⟩) ?_
  refine lw_ld (pc := 1030) (n := 1) rfl rfl rfl rfl rfl (by decide) hi0 hi1 hL ?_
  refine XW.call (d' := 59) (mc' := 1) (ms' := 240) (av := [.ref 0, .int (xs (i + Int32.ofInt 1).toNatClampNeg)]) (rest := []) (M := mr_371) (Ma := mr_91) rfl (show mcode 371 1035 = some (1035, .invokevirtual 102, 3, 91, 0, 0, _) from rfl) rfl (by decide) (by decide) ⟨rfl, 0, _, rfl, (iv_cell hw).1⟩ rfl rfl (show (0 : Nat) ≤ 8 by decide) (tc_rlC (d := 0) hw hf) (by decide) (by omega) (by omega) (fun r1 w1 hQ1 => ?_)
  rw [Nat.add_sub_cancel, Nat.add_sub_cancel]
  obtain ⟨x1, e1, -⟩ := hQ1.2.2.1
  subst e1
  obtain ⟨sh1, R1, hw1⟩ := hQ1.2.1
  refine XW.fam (S' := (1039, [(3, .int i), (2, .ref 94), (1, .ref 0), (0, .retAddr 0)], [], w1)) (M := mr_371) rfl (show mcode 371 1038 = some (1038, .pop, 1, 0, 0, 0, _) from rfl) (Or.inr (Or.inr (Or.inr (Or.inr (Or.inr (Or.inl ⟨_, rfl, rfl⟩)))))) ?_
  refine XW.fam (S' := (1040, [(3, .int i), (2, .ref 94), (1, .ref 0), (0, .retAddr 0)], [.ref 94], w1)) (M := mr_371) rfl (show mcode 371 1039 = some (1039, .aload_n 2, 1, 0, 0, 0, _) from rfl) (Or.inl ⟨.ref 94, rfl, rfl⟩) ?_
  refine lw_ld (pc := 1040) (n := 1) rfl rfl rfl rfl rfl (by decide) hi0 hi1 hL ?_
  refine XW.call (d' := 60) (mc' := 0) (ms' := 0) (av := [.ref 94, .int (xs (i + Int32.ofInt 1).toNatClampNeg)]) (rest := []) (M := mr_371) (Ma := mr_277) rfl (show mcode 371 1045 = some (1045, .invokevirtual 105, 3, 277, 0, 0, _) from rfl) rfl (by decide) (by decide) ⟨rfl, 94, _, rfl, (iv_cell hw1).2⟩ rfl rfl (show (0 : Nat) ≤ 8 by decide) (tc_rlM (d := 0) hw1 hQ1.1) (by decide) (by omega) (by omega) (fun r2 w2 hQ2 => ?_)
  obtain ⟨x2, e2, -⟩ := hQ2.2.2.1
  subst e2
  obtain ⟨sh2, R2, hw2⟩ := hQ2.2.1
  have hl := ru_like hv.2.1 hv.2.2.1 hv.2.2.2.1 hv.2.2.2.2.1 hv.2.2.2.2.2.1 hv.2.2.2.2.2.2.1 hQ1 hQ2
  have c1_0 : w1.2.1 1 1 = w.2.1 1 1 := hQ1.2.2.2.1 1 1 (by decide) rfl
  have c2_0 : w2.2.1 1 1 = w1.2.1 1 1 := hQ2.2.2.2.1 1 1 rfl
  have m1_0 : w1.2.1 94 2 = w.2.1 94 2 := hQ1.2.2.2.1 94 2 (by decide) rfl
  have m2_0 : w2.2.1 94 2 = w1.2.1 94 2 := hQ2.2.2.2.1 94 2 rfl
  have c1_1 : w1.2.1 1 0 = w.2.1 1 0 := hQ1.2.2.2.1 1 0 (by decide) rfl
  have c2_1 : w2.2.1 1 0 = w1.2.1 1 0 := hQ2.2.2.2.1 1 0 rfl
  have m1_1 : w1.2.1 94 1 = w.2.1 94 1 := hQ1.2.2.2.1 94 1 (by decide) rfl
  have m2_1 : w2.2.1 94 1 = w1.2.1 94 1 := hQ2.2.2.2.1 94 1 rfl
  have c1_3 : ∀ k, w1.2.1 42 k = w.2.1 42 k := fun k => hQ1.2.2.2.1 42 k (by decide) rfl
  have c2_3 : ∀ k, w2.2.1 42 k = w1.2.1 42 k := fun k => hQ2.2.2.2.1 42 k rfl
  have m1_3 : ∀ k, w1.2.1 122 k = w.2.1 122 k := fun k => hQ1.2.2.2.1 122 k (by decide) rfl
  have m2_3 : ∀ k, w2.2.1 122 k = w1.2.1 122 k := fun k => hQ2.2.2.2.1 122 k rfl
  have y1_7_0 : ∀ k, w1.2.1 5 k = w.2.1 5 k := fun k => hQ1.2.2.2.1 5 k (by decide) rfl
  have y1_7_1 : ∀ k, w1.2.1 98 k = w.2.1 98 k := fun k => hQ1.2.2.2.1 98 k (by decide) rfl
  have y1_7_2 : ∀ k, w1.2.1 8 k = w.2.1 8 k := fun k => hQ1.2.2.2.1 8 k (by decide) rfl
  have y1_7_3 : ∀ k, w1.2.1 102 k = w.2.1 102 k := fun k => hQ1.2.2.2.1 102 k (by decide) rfl
  have y1_7_4 : w1.2.1 1 1 = w.2.1 1 1 := hQ1.2.2.2.1 1 1 (by decide) rfl
  have y2_7_0 : ∀ k, w2.2.1 5 k = w1.2.1 5 k := fun k => hQ2.2.2.2.1 5 k rfl
  have y2_7_1 : ∀ k, w2.2.1 98 k = w1.2.1 98 k := fun k => hQ2.2.2.2.1 98 k rfl
  have y2_7_2 : ∀ k, w2.2.1 8 k = w1.2.1 8 k := fun k => hQ2.2.2.2.1 8 k rfl
  have y2_7_3 : ∀ k, w2.2.1 102 k = w1.2.1 102 k := fun k => hQ2.2.2.2.1 102 k rfl
  have y2_7_4 : w2.2.1 1 1 = w1.2.1 1 1 := hQ2.2.2.2.1 1 1 rfl
  have hv2 : RL w2 := ⟨(c2_0.trans c1_0).trans (hv.1.trans (m1_0.symm.trans m2_0.symm)), (c2_1.trans c1_1).trans (hv.2.1.trans (m1_1.symm.trans m2_1.symm)), hl.2.1, fun k => ((c2_3 k).trans (c1_3 k)).trans ((hv.2.2.2.1 k).trans ((m1_3 k).symm.trans (m2_3 k).symm)), hl.2.2.1, hl.2.2.2.1, hl.2.2.2.2, RLf_keep (fun k => (y2_7_0 k).trans (y1_7_0 k)) (fun k => (y2_7_1 k).trans (y1_7_1 k)) (fun k => (y2_7_2 k).trans (y1_7_2 k)) (fun k => (y2_7_3 k).trans (y1_7_3 k)) (y2_7_4.trans y1_7_4) hv.2.2.2.2.2.2.2⟩
  refine XW.fam (S' := (1049, [(3, .int i), (2, .ref 94), (1, .ref 0), (0, .retAddr 0)], [], w2)) (M := mr_371) rfl (show mcode 371 1048 = some (1048, .pop, 1, 0, 0, 0, _) from rfl) (Or.inr (Or.inr (Or.inr (Or.inr (Or.inr (Or.inl ⟨_, rfl, rfl⟩)))))) ?_
  refine XW.fam (S' := (2217, [(3, .int i), (2, .ref 94), (1, .ref 0), (0, .retAddr 0)], [], w2)) (M := mr_371) rfl (show mcode 371 1049 = some (1049, .goto 1168, 3, 2217, 0, 0, _) from rfl) (Or.inr (Or.inl ⟨2217, [], rfl, rfl⟩)) ?_
  exact XW.wid (mc := mc) (ms := ms) (by omega) (by omega) (K w2 ⟨hQ2.1, ⟨_, _, hw2⟩, hv2⟩)
set_option maxRecDepth 100000 in
theorem case_22 {Ln : Nat} {xs : Nat → Int32} {mc ms : Nat} {w : mW} {i : Int32} (hi0 : 0 ≤ i.toInt) (hi1 : i.toInt + 6 ≤ Ln) (hL : Ln ≤ 3072) (hV : IV w) (K : ∀ w', IV w' → XW 371 mr_371 (some (Ln, xs)) 91 mc ms Qone (2217, [(3, .int i), (2, .ref 94), (1, .ref 0), (0, .retAddr 0)], [], w')) : XW 371 mr_371 (some (Ln, xs)) 91 (mc + 1) (ms + 240) Qone (1052, [(3, .int i), (2, .ref 94), (1, .ref 0), (0, .retAddr 0)], [], w) := by
  obtain ⟨hf, ⟨sh, R, hw⟩, hv⟩ := hV
  refine XW.fam (S' := (1053, [(3, .int i), (2, .ref 94), (1, .ref 0), (0, .retAddr 0)], [.ref 0], w)) (M := mr_371) rfl (show mcode 371 1052 = some (1052, .aload_n 1, 1, 0, 0, 0, _) from rfl) (Or.inl ⟨.ref 0, rfl, rfl⟩) ?_
  refine lw_ld (pc := 1053) (n := 1) rfl rfl rfl rfl rfl (by decide) hi0 hi1 hL ?_
  refine lw_ld (pc := 1058) (n := 2) rfl rfl rfl rfl rfl (by decide) hi0 hi1 hL ?_
  refine lw_ld (pc := 1063) (n := 3) rfl rfl rfl rfl rfl (by decide) hi0 hi1 hL ?_
  refine XW.call (d' := 3) (mc' := 0) (ms' := 0) (av := [.ref 0, .int (xs (i + Int32.ofInt 1).toNatClampNeg), .int (xs (i + Int32.ofInt 2).toNatClampNeg), .int (xs (i + Int32.ofInt 3).toNatClampNeg)]) (rest := []) (M := mr_371) (Ma := mr_114) rfl (show mcode 371 1068 = some (1068, .invokevirtual 106, 3, 114, 0, 0, _) from rfl) rfl (by decide) (by decide) ⟨rfl, 0, _, rfl, (iv_cell hw).1⟩ rfl rfl (show (0 : Nat) ≤ 8 by decide) (tc_fcC (d := 0) hw) (by decide) (by omega) (by omega) (fun r1 w1 hQ1 => ?_)
  obtain ⟨x1, e1⟩ := Qfc_int hQ1
  subst e1
  have hw1 : wOK (mkT vV []) (wE sh R) w1 := by rw [hQ1.1]; exact hw
  have hf1 : fresh w1 := by rw [hQ1.1]; exact hf
  refine XW.fam (S' := (1072, [(3, .int i), (2, .ref 94), (1, .ref 0), (0, .retAddr 0)], [.ref 94, .int x1], w1)) (M := mr_371) rfl (show mcode 371 1071 = some (1071, .aload_n 2, 1, 0, 0, 0, _) from rfl) (Or.inl ⟨.ref 94, rfl, rfl⟩) ?_
  refine lw_ld (pc := 1072) (n := 1) rfl rfl rfl rfl rfl (by decide) hi0 hi1 hL ?_
  refine lw_ld (pc := 1077) (n := 2) rfl rfl rfl rfl rfl (by decide) hi0 hi1 hL ?_
  refine lw_ld (pc := 1082) (n := 3) rfl rfl rfl rfl rfl (by decide) hi0 hi1 hL ?_
  refine XW.call (d' := 3) (mc' := 0) (ms' := 0) (av := [.ref 94, .int (xs (i + Int32.ofInt 1).toNatClampNeg), .int (xs (i + Int32.ofInt 2).toNatClampNeg), .int (xs (i + Int32.ofInt 3).toNatClampNeg)]) (rest := [.int x1]) (M := mr_371) (Ma := mr_294) rfl (show mcode 371 1087 = some (1087, .invokevirtual 109, 3, 294, 0, 0, _) from rfl) rfl (by decide) (by decide) ⟨rfl, 94, _, rfl, (iv_cell hw1).2⟩ rfl rfl (show (1 : Nat) ≤ 8 by decide) (tc_fcM (d := 0) hw1) (by decide) (by omega) (by omega) (fun r2 w2 hQ2 => ?_)
  obtain ⟨x2, e2⟩ := Qfc_int hQ2
  subst e2
  have hw2 : wOK (mkT vV []) (wE sh R) w2 := by rw [hQ2.1]; exact hw1
  have hf2 : fresh w2 := by rw [hQ2.1]; exact hf1
  have hl := frc_like (hw.2.2.1 1 1) (fun k => hw.2.2.1 48 k) hv.1 hv.2.2.2.2.1 hv.2.2.2.2.2.1 hv.2.2.2.2.2.2.1 hv.2.2.2.2.2.2.2 hQ1 hQ2
  have c1_0 : w1.2.1 1 1 = w.2.1 1 1 := (by rw [hQ1.1])
  have c2_0 : w2.2.1 1 1 = w1.2.1 1 1 := (by rw [hQ2.1])
  have m1_0 : w1.2.1 94 2 = w.2.1 94 2 := (by rw [hQ1.1])
  have m2_0 : w2.2.1 94 2 = w1.2.1 94 2 := (by rw [hQ2.1])
  have c1_1 : w1.2.1 1 0 = w.2.1 1 0 := (by rw [hQ1.1])
  have c2_1 : w2.2.1 1 0 = w1.2.1 1 0 := (by rw [hQ2.1])
  have m1_1 : w1.2.1 94 1 = w.2.1 94 1 := (by rw [hQ1.1])
  have m2_1 : w2.2.1 94 1 = w1.2.1 94 1 := (by rw [hQ2.1])
  have c1_2 : w1.2.1 41 0 = w.2.1 41 0 := (by rw [hQ1.1])
  have c2_2 : w2.2.1 41 0 = w1.2.1 41 0 := (by rw [hQ2.1])
  have m1_2 : w1.2.1 94 34 = w.2.1 94 34 := (by rw [hQ1.1])
  have m2_2 : w2.2.1 94 34 = w1.2.1 94 34 := (by rw [hQ2.1])
  have c1_3 : ∀ k, w1.2.1 42 k = w.2.1 42 k := fun k => (by rw [hQ1.1])
  have c2_3 : ∀ k, w2.2.1 42 k = w1.2.1 42 k := fun k => (by rw [hQ2.1])
  have m1_3 : ∀ k, w1.2.1 122 k = w.2.1 122 k := fun k => (by rw [hQ1.1])
  have m2_3 : ∀ k, w2.2.1 122 k = w1.2.1 122 k := fun k => (by rw [hQ2.1])
  have c1_4 : w1.2.1 47 3 = w.2.1 47 3 := (by rw [hQ1.1])
  have c2_4 : w2.2.1 47 3 = w1.2.1 47 3 := (by rw [hQ2.1])
  have m1_4 : w1.2.1 94 35 = w.2.1 94 35 := (by rw [hQ1.1])
  have m2_4 : w2.2.1 94 35 = w1.2.1 94 35 := (by rw [hQ2.1])
  have c1_5 : ∀ k, w1.2.1 48 k = w.2.1 48 k := fun k => (by rw [hQ1.1])
  have c2_5 : ∀ k, w2.2.1 48 k = w1.2.1 48 k := fun k => (by rw [hQ2.1])
  have m1_5 : ∀ k, w1.2.1 123 k = w.2.1 123 k := fun k => (by rw [hQ1.1])
  have m2_5 : ∀ k, w2.2.1 123 k = w1.2.1 123 k := fun k => (by rw [hQ2.1])
  have c1_6 : ∀ k, w1.2.1 49 k = w.2.1 49 k := fun k => (by rw [hQ1.1])
  have c2_6 : ∀ k, w2.2.1 49 k = w1.2.1 49 k := fun k => (by rw [hQ2.1])
  have m1_6 : ∀ k, w1.2.1 124 k = w.2.1 124 k := fun k => (by rw [hQ1.1])
  have m2_6 : ∀ k, w2.2.1 124 k = w1.2.1 124 k := fun k => (by rw [hQ2.1])
  have y1_7_0 : ∀ k, w1.2.1 5 k = w.2.1 5 k := fun k => (by rw [hQ1.1])
  have y1_7_1 : ∀ k, w1.2.1 98 k = w.2.1 98 k := fun k => (by rw [hQ1.1])
  have y1_7_2 : ∀ k, w1.2.1 8 k = w.2.1 8 k := fun k => (by rw [hQ1.1])
  have y1_7_3 : ∀ k, w1.2.1 102 k = w.2.1 102 k := fun k => (by rw [hQ1.1])
  have y1_7_4 : w1.2.1 1 1 = w.2.1 1 1 := (by rw [hQ1.1])
  have y2_7_0 : ∀ k, w2.2.1 5 k = w1.2.1 5 k := fun k => (by rw [hQ2.1])
  have y2_7_1 : ∀ k, w2.2.1 98 k = w1.2.1 98 k := fun k => (by rw [hQ2.1])
  have y2_7_2 : ∀ k, w2.2.1 8 k = w1.2.1 8 k := fun k => (by rw [hQ2.1])
  have y2_7_3 : ∀ k, w2.2.1 102 k = w1.2.1 102 k := fun k => (by rw [hQ2.1])
  have y2_7_4 : w2.2.1 1 1 = w1.2.1 1 1 := (by rw [hQ2.1])
  have hv2 : RL w2 := ⟨(c2_0.trans c1_0).trans (hv.1.trans (m1_0.symm.trans m2_0.symm)), (c2_1.trans c1_1).trans (hv.2.1.trans (m1_1.symm.trans m2_1.symm)), (c2_2.trans c1_2).trans (hv.2.2.1.trans (m1_2.symm.trans m2_2.symm)), fun k => ((c2_3 k).trans (c1_3 k)).trans ((hv.2.2.2.1 k).trans ((m1_3 k).symm.trans (m2_3 k).symm)), (c2_4.trans c1_4).trans (hv.2.2.2.2.1.trans (m1_4.symm.trans m2_4.symm)), fun k => ((c2_5 k).trans (c1_5 k)).trans ((hv.2.2.2.2.2.1 k).trans ((m1_5 k).symm.trans (m2_5 k).symm)), fun k => ((c2_6 k).trans (c1_6 k)).trans ((hv.2.2.2.2.2.2.1 k).trans ((m1_6 k).symm.trans (m2_6 k).symm)), RLf_keep (fun k => (y2_7_0 k).trans (y1_7_0 k)) (fun k => (y2_7_1 k).trans (y1_7_1 k)) (fun k => (y2_7_2 k).trans (y1_7_2 k)) (fun k => (y2_7_3 k).trans (y1_7_3 k)) (y2_7_4.trans y1_7_4) hv.2.2.2.2.2.2.2⟩
  cases hl
  refine XW.fam (S' := (2217, [(3, .int i), (2, .ref 94), (1, .ref 0), (0, .retAddr 0)], [], w2)) (M := mr_371) rfl (show mcode 371 1090 = some (1090, .if_icmp .eq 1127, 3, 2217, 0, 0, _) from rfl) (Or.inr (Or.inl ⟨2217, [], by simp [brn, bcmp], rfl⟩)) ?_
  exact XW.wid (mc := mc) (ms := ms) (by omega) (by omega) (K w2 ⟨hf2, ⟨_, _, hw2⟩, hv2⟩)
set_option maxRecDepth 100000 in
theorem case_23 {Ln : Nat} {xs : Nat → Int32} {mc ms : Nat} {w : mW} {i : Int32} (hi0 : 0 ≤ i.toInt) (hi1 : i.toInt + 6 ≤ Ln) (hL : Ln ≤ 3072) (hV : IV w) (K : ∀ w', IV w' → XW 371 mr_371 (some (Ln, xs)) 91 mc ms Qone (2217, [(3, .int i), (2, .ref 94), (1, .ref 0), (0, .retAddr 0)], [], w')) : XW 371 mr_371 (some (Ln, xs)) 91 (mc + 1) (ms + 240) Qone (1095, [(3, .int i), (2, .ref 94), (1, .ref 0), (0, .retAddr 0)], [], w) := by
  obtain ⟨hf, ⟨sh, R, hw⟩, hv⟩ := hV
  refine XW.fam (S' := (1096, [(3, .int i), (2, .ref 94), (1, .ref 0), (0, .retAddr 0)], [.ref 0], w)) (M := mr_371) rfl (show mcode 371 1095 = some (1095, .aload_n 1, 1, 0, 0, 0, _) from rfl) (Or.inl ⟨.ref 0, rfl, rfl⟩) ?_
  refine lw_ld (pc := 1096) (n := 1) rfl rfl rfl rfl rfl (by decide) hi0 hi1 hL ?_
  refine lw_ld (pc := 1101) (n := 2) rfl rfl rfl rfl rfl (by decide) hi0 hi1 hL ?_
  refine lw_ld (pc := 1106) (n := 3) rfl rfl rfl rfl rfl (by decide) hi0 hi1 hL ?_
  refine lw_ld (pc := 1111) (n := 4) rfl rfl rfl rfl rfl (by decide) hi0 hi1 hL ?_
  refine XW.call (d' := 45) (mc' := 0) (ms' := 0) (av := [.ref 0, .int (xs (i + Int32.ofInt 1).toNatClampNeg), .int (xs (i + Int32.ofInt 2).toNatClampNeg), .int (xs (i + Int32.ofInt 3).toNatClampNeg), .int (xs (i + Int32.ofInt 4).toNatClampNeg)]) (rest := []) (M := mr_371) (Ma := mr_116) rfl (show mcode 371 1116 = some (1116, .invokevirtual 110, 3, 116, 0, 0, _) from rfl) rfl (by decide) (by decide) ⟨rfl, 0, _, rfl, (iv_cell hw).1⟩ rfl rfl (show _ ≤ 8 by decide) (kk_104 [.ref 0, .int (xs (i + Int32.ofInt 1).toNatClampNeg), .int (xs (i + Int32.ofInt 2).toNatClampNeg), .int (xs (i + Int32.ofInt 3).toNatClampNeg), .int (xs (i + Int32.ofInt 4).toNatClampNeg)] w hw ⟨rfl, any32 _, any32 _, any32 _, any32 _, trivial⟩ (fun q hq => by cases hq) hf) (by decide) (by omega) (by omega) (fun r1 w1 hQ1 => ?_)
  obtain ⟨hf1, hw1, hI1, ⟨x1, rfl, -, -⟩, -⟩ := hQ1
  have c1_0 : w1.2.1 1 1 = w.2.1 1 1 := hI1 1 1 rfl
  have m1_0 : w1.2.1 94 2 = w.2.1 94 2 := hI1 94 2 rfl
  have c1_1 : w1.2.1 1 0 = w.2.1 1 0 := hI1 1 0 rfl
  have m1_1 : w1.2.1 94 1 = w.2.1 94 1 := hI1 94 1 rfl
  have c1_2 : w1.2.1 41 0 = w.2.1 41 0 := hI1 41 0 rfl
  have m1_2 : w1.2.1 94 34 = w.2.1 94 34 := hI1 94 34 rfl
  have c1_3 : ∀ k, w1.2.1 42 k = w.2.1 42 k := fun k => hI1 42 k rfl
  have m1_3 : ∀ k, w1.2.1 122 k = w.2.1 122 k := fun k => hI1 122 k rfl
  have c1_4 : w1.2.1 47 3 = w.2.1 47 3 := hI1 47 3 rfl
  have m1_4 : w1.2.1 94 35 = w.2.1 94 35 := hI1 94 35 rfl
  have c1_5 : ∀ k, w1.2.1 48 k = w.2.1 48 k := fun k => hI1 48 k rfl
  have m1_5 : ∀ k, w1.2.1 123 k = w.2.1 123 k := fun k => hI1 123 k rfl
  have c1_6 : ∀ k, w1.2.1 49 k = w.2.1 49 k := fun k => hI1 49 k rfl
  have m1_6 : ∀ k, w1.2.1 124 k = w.2.1 124 k := fun k => hI1 124 k rfl
  have y1_7_0 : ∀ k, w1.2.1 5 k = w.2.1 5 k := fun k => hI1 5 k rfl
  have y1_7_1 : ∀ k, w1.2.1 98 k = w.2.1 98 k := fun k => hI1 98 k rfl
  have y1_7_2 : ∀ k, w1.2.1 8 k = w.2.1 8 k := fun k => hI1 8 k rfl
  have y1_7_3 : ∀ k, w1.2.1 102 k = w.2.1 102 k := fun k => hI1 102 k rfl
  have y1_7_4 : w1.2.1 1 1 = w.2.1 1 1 := hI1 1 1 rfl
  refine XW.fam (S' := (1120, [(3, .int i), (2, .ref 94), (1, .ref 0), (0, .retAddr 0)], [], w1)) (M := mr_371) rfl (show mcode 371 1119 = some (1119, .pop, 1, 0, 0, 0, _) from rfl) (Or.inr (Or.inr (Or.inr (Or.inr (Or.inr (Or.inl ⟨_, rfl, rfl⟩)))))) ?_
  refine XW.fam (S' := (1121, [(3, .int i), (2, .ref 94), (1, .ref 0), (0, .retAddr 0)], [.ref 94], w1)) (M := mr_371) rfl (show mcode 371 1120 = some (1120, .aload_n 2, 1, 0, 0, 0, _) from rfl) (Or.inl ⟨.ref 94, rfl, rfl⟩) ?_
  refine lw_ld (pc := 1121) (n := 1) rfl rfl rfl rfl rfl (by decide) hi0 hi1 hL ?_
  refine lw_ld (pc := 1126) (n := 2) rfl rfl rfl rfl rfl (by decide) hi0 hi1 hL ?_
  refine lw_ld (pc := 1131) (n := 3) rfl rfl rfl rfl rfl (by decide) hi0 hi1 hL ?_
  refine lw_ld (pc := 1136) (n := 4) rfl rfl rfl rfl rfl (by decide) hi0 hi1 hL ?_
  refine XW.call (d' := 46) (mc' := 0) (ms' := 0) (av := [.ref 94, .int (xs (i + Int32.ofInt 1).toNatClampNeg), .int (xs (i + Int32.ofInt 2).toNatClampNeg), .int (xs (i + Int32.ofInt 3).toNatClampNeg), .int (xs (i + Int32.ofInt 4).toNatClampNeg)]) (rest := []) (M := mr_371) (Ma := mr_296) rfl (show mcode 371 1141 = some (1141, .invokevirtual 113, 3, 296, 0, 0, _) from rfl) rfl (by decide) (by decide) ⟨rfl, 94, _, rfl, (iv_cell hw1).2⟩ rfl rfl (show _ ≤ 8 by decide) (kk_317 [.ref 94, .int (xs (i + Int32.ofInt 1).toNatClampNeg), .int (xs (i + Int32.ofInt 2).toNatClampNeg), .int (xs (i + Int32.ofInt 3).toNatClampNeg), .int (xs (i + Int32.ofInt 4).toNatClampNeg)] w1 hw1 ⟨rfl, any32 _, any32 _, any32 _, any32 _, trivial⟩ (fun q hq => by cases hq) hf1) (by decide) (by omega) (by omega) (fun r2 w2 hQ2 => ?_)
  obtain ⟨hf2, hw2, hI2, ⟨x2, rfl, -, -⟩, -⟩ := hQ2
  have c2_0 : w2.2.1 1 1 = w1.2.1 1 1 := hI2 1 1 rfl
  have m2_0 : w2.2.1 94 2 = w1.2.1 94 2 := hI2 94 2 rfl
  have c2_1 : w2.2.1 1 0 = w1.2.1 1 0 := hI2 1 0 rfl
  have m2_1 : w2.2.1 94 1 = w1.2.1 94 1 := hI2 94 1 rfl
  have c2_2 : w2.2.1 41 0 = w1.2.1 41 0 := hI2 41 0 rfl
  have m2_2 : w2.2.1 94 34 = w1.2.1 94 34 := hI2 94 34 rfl
  have c2_3 : ∀ k, w2.2.1 42 k = w1.2.1 42 k := fun k => hI2 42 k rfl
  have m2_3 : ∀ k, w2.2.1 122 k = w1.2.1 122 k := fun k => hI2 122 k rfl
  have c2_4 : w2.2.1 47 3 = w1.2.1 47 3 := hI2 47 3 rfl
  have m2_4 : w2.2.1 94 35 = w1.2.1 94 35 := hI2 94 35 rfl
  have c2_5 : ∀ k, w2.2.1 48 k = w1.2.1 48 k := fun k => hI2 48 k rfl
  have m2_5 : ∀ k, w2.2.1 123 k = w1.2.1 123 k := fun k => hI2 123 k rfl
  have c2_6 : ∀ k, w2.2.1 49 k = w1.2.1 49 k := fun k => hI2 49 k rfl
  have m2_6 : ∀ k, w2.2.1 124 k = w1.2.1 124 k := fun k => hI2 124 k rfl
  have y2_7_0 : ∀ k, w2.2.1 5 k = w1.2.1 5 k := fun k => hI2 5 k rfl
  have y2_7_1 : ∀ k, w2.2.1 98 k = w1.2.1 98 k := fun k => hI2 98 k rfl
  have y2_7_2 : ∀ k, w2.2.1 8 k = w1.2.1 8 k := fun k => hI2 8 k rfl
  have y2_7_3 : ∀ k, w2.2.1 102 k = w1.2.1 102 k := fun k => hI2 102 k rfl
  have y2_7_4 : w2.2.1 1 1 = w1.2.1 1 1 := hI2 1 1 rfl
  refine XW.fam (S' := (1145, [(3, .int i), (2, .ref 94), (1, .ref 0), (0, .retAddr 0)], [], w2)) (M := mr_371) rfl (show mcode 371 1144 = some (1144, .pop, 1, 0, 0, 0, _) from rfl) (Or.inr (Or.inr (Or.inr (Or.inr (Or.inr (Or.inl ⟨_, rfl, rfl⟩)))))) ?_
  refine XW.fam (S' := (2217, [(3, .int i), (2, .ref 94), (1, .ref 0), (0, .retAddr 0)], [], w2)) (M := mr_371) rfl (show mcode 371 1145 = some (1145, .goto 1072, 3, 2217, 0, 0, _) from rfl) (Or.inr (Or.inl ⟨2217, [], rfl, rfl⟩)) ?_
  exact XW.wid (mc := mc) (ms := ms) (by omega) (by omega) (K w2 ⟨hf2, ⟨_, _, hw2⟩, ⟨(c2_0.trans c1_0).trans (hv.1.trans (m1_0.symm.trans m2_0.symm)), (c2_1.trans c1_1).trans (hv.2.1.trans (m1_1.symm.trans m2_1.symm)), (c2_2.trans c1_2).trans (hv.2.2.1.trans (m1_2.symm.trans m2_2.symm)), fun k => ((c2_3 k).trans (c1_3 k)).trans ((hv.2.2.2.1 k).trans ((m1_3 k).symm.trans (m2_3 k).symm)), (c2_4.trans c1_4).trans (hv.2.2.2.2.1.trans (m1_4.symm.trans m2_4.symm)), fun k => ((c2_5 k).trans (c1_5 k)).trans ((hv.2.2.2.2.2.1 k).trans ((m1_5 k).symm.trans (m2_5 k).symm)), fun k => ((c2_6 k).trans (c1_6 k)).trans ((hv.2.2.2.2.2.2.1 k).trans ((m1_6 k).symm.trans (m2_6 k).symm)), RLf_keep (fun k => (y2_7_0 k).trans (y1_7_0 k)) (fun k => (y2_7_1 k).trans (y1_7_1 k)) (fun k => (y2_7_2 k).trans (y1_7_2 k)) (fun k => (y2_7_3 k).trans (y1_7_3 k)) (y2_7_4.trans y1_7_4) hv.2.2.2.2.2.2.2⟩⟩)
set_option maxRecDepth 100000 in
theorem case_24 {Ln : Nat} {xs : Nat → Int32} {mc ms : Nat} {w : mW} {i : Int32} (hi0 : 0 ≤ i.toInt) (hi1 : i.toInt + 6 ≤ Ln) (hL : Ln ≤ 3072) (hV : IV w) (K : ∀ w', IV w' → XW 371 mr_371 (some (Ln, xs)) 91 mc ms Qone (2217, [(3, .int i), (2, .ref 94), (1, .ref 0), (0, .retAddr 0)], [], w')) : XW 371 mr_371 (some (Ln, xs)) 91 (mc + 1) (ms + 240) Qone (1148, [(3, .int i), (2, .ref 94), (1, .ref 0), (0, .retAddr 0)], [], w) := by
  obtain ⟨hf, ⟨sh, R, hw⟩, hv⟩ := hV
  refine XW.fam (S' := (1149, [(3, .int i), (2, .ref 94), (1, .ref 0), (0, .retAddr 0)], [.ref 0], w)) (M := mr_371) rfl (show mcode 371 1148 = some (1148, .aload_n 1, 1, 0, 0, 0, _) from rfl) (Or.inl ⟨.ref 0, rfl, rfl⟩) ?_
  refine lw_ld (pc := 1149) (n := 1) rfl rfl rfl rfl rfl (by decide) hi0 hi1 hL ?_
  refine lw_ld (pc := 1154) (n := 2) rfl rfl rfl rfl rfl (by decide) hi0 hi1 hL ?_
  refine XW.call (d' := 45) (mc' := 0) (ms' := 0) (av := [.ref 0, .int (xs (i + Int32.ofInt 1).toNatClampNeg), .int (xs (i + Int32.ofInt 2).toNatClampNeg)]) (rest := []) (M := mr_371) (Ma := mr_132) rfl (show mcode 371 1159 = some (1159, .invokevirtual 114, 3, 132, 0, 0, _) from rfl) rfl (by decide) (by decide) ⟨rfl, 0, _, rfl, (iv_cell hw).1⟩ rfl rfl (show _ ≤ 8 by decide) (kk_106 [.ref 0, .int (xs (i + Int32.ofInt 1).toNatClampNeg), .int (xs (i + Int32.ofInt 2).toNatClampNeg)] w hw ⟨rfl, any32 _, any32 _, trivial⟩ (fun q hq => by cases hq) hf) (by decide) (by omega) (by omega) (fun r1 w1 hQ1 => ?_)
  obtain ⟨hf1, hw1, hI1, ⟨x1, rfl, -, -⟩, -⟩ := hQ1
  have c1_0 : w1.2.1 1 1 = w.2.1 1 1 := hI1 1 1 rfl
  have m1_0 : w1.2.1 94 2 = w.2.1 94 2 := hI1 94 2 rfl
  have c1_1 : w1.2.1 1 0 = w.2.1 1 0 := hI1 1 0 rfl
  have m1_1 : w1.2.1 94 1 = w.2.1 94 1 := hI1 94 1 rfl
  have c1_2 : w1.2.1 41 0 = w.2.1 41 0 := hI1 41 0 rfl
  have m1_2 : w1.2.1 94 34 = w.2.1 94 34 := hI1 94 34 rfl
  have c1_3 : ∀ k, w1.2.1 42 k = w.2.1 42 k := fun k => hI1 42 k rfl
  have m1_3 : ∀ k, w1.2.1 122 k = w.2.1 122 k := fun k => hI1 122 k rfl
  have c1_4 : w1.2.1 47 3 = w.2.1 47 3 := hI1 47 3 rfl
  have m1_4 : w1.2.1 94 35 = w.2.1 94 35 := hI1 94 35 rfl
  have c1_5 : ∀ k, w1.2.1 48 k = w.2.1 48 k := fun k => hI1 48 k rfl
  have m1_5 : ∀ k, w1.2.1 123 k = w.2.1 123 k := fun k => hI1 123 k rfl
  have c1_6 : ∀ k, w1.2.1 49 k = w.2.1 49 k := fun k => hI1 49 k rfl
  have m1_6 : ∀ k, w1.2.1 124 k = w.2.1 124 k := fun k => hI1 124 k rfl
  have y1_7_0 : ∀ k, w1.2.1 5 k = w.2.1 5 k := fun k => hI1 5 k rfl
  have y1_7_1 : ∀ k, w1.2.1 98 k = w.2.1 98 k := fun k => hI1 98 k rfl
  have y1_7_2 : ∀ k, w1.2.1 8 k = w.2.1 8 k := fun k => hI1 8 k rfl
  have y1_7_3 : ∀ k, w1.2.1 102 k = w.2.1 102 k := fun k => hI1 102 k rfl
  have y1_7_4 : w1.2.1 1 1 = w.2.1 1 1 := hI1 1 1 rfl
  refine XW.fam (S' := (1163, [(3, .int i), (2, .ref 94), (1, .ref 0), (0, .retAddr 0)], [], w1)) (M := mr_371) rfl (show mcode 371 1162 = some (1162, .pop, 1, 0, 0, 0, _) from rfl) (Or.inr (Or.inr (Or.inr (Or.inr (Or.inr (Or.inl ⟨_, rfl, rfl⟩)))))) ?_
  refine XW.fam (S' := (1164, [(3, .int i), (2, .ref 94), (1, .ref 0), (0, .retAddr 0)], [.ref 94], w1)) (M := mr_371) rfl (show mcode 371 1163 = some (1163, .aload_n 2, 1, 0, 0, 0, _) from rfl) (Or.inl ⟨.ref 94, rfl, rfl⟩) ?_
  refine lw_ld (pc := 1164) (n := 1) rfl rfl rfl rfl rfl (by decide) hi0 hi1 hL ?_
  refine lw_ld (pc := 1169) (n := 2) rfl rfl rfl rfl rfl (by decide) hi0 hi1 hL ?_
  refine XW.call (d' := 46) (mc' := 0) (ms' := 0) (av := [.ref 94, .int (xs (i + Int32.ofInt 1).toNatClampNeg), .int (xs (i + Int32.ofInt 2).toNatClampNeg)]) (rest := []) (M := mr_371) (Ma := mr_305) rfl (show mcode 371 1174 = some (1174, .invokevirtual 117, 3, 305, 0, 0, _) from rfl) rfl (by decide) (by decide) ⟨rfl, 94, _, rfl, (iv_cell hw1).2⟩ rfl rfl (show _ ≤ 8 by decide) (kk_318 [.ref 94, .int (xs (i + Int32.ofInt 1).toNatClampNeg), .int (xs (i + Int32.ofInt 2).toNatClampNeg)] w1 hw1 ⟨rfl, any32 _, any32 _, trivial⟩ (fun q hq => by cases hq) hf1) (by decide) (by omega) (by omega) (fun r2 w2 hQ2 => ?_)
  obtain ⟨hf2, hw2, hI2, ⟨x2, rfl, -, -⟩, -⟩ := hQ2
  have c2_0 : w2.2.1 1 1 = w1.2.1 1 1 := hI2 1 1 rfl
  have m2_0 : w2.2.1 94 2 = w1.2.1 94 2 := hI2 94 2 rfl
  have c2_1 : w2.2.1 1 0 = w1.2.1 1 0 := hI2 1 0 rfl
  have m2_1 : w2.2.1 94 1 = w1.2.1 94 1 := hI2 94 1 rfl
  have c2_2 : w2.2.1 41 0 = w1.2.1 41 0 := hI2 41 0 rfl
  have m2_2 : w2.2.1 94 34 = w1.2.1 94 34 := hI2 94 34 rfl
  have c2_3 : ∀ k, w2.2.1 42 k = w1.2.1 42 k := fun k => hI2 42 k rfl
  have m2_3 : ∀ k, w2.2.1 122 k = w1.2.1 122 k := fun k => hI2 122 k rfl
  have c2_4 : w2.2.1 47 3 = w1.2.1 47 3 := hI2 47 3 rfl
  have m2_4 : w2.2.1 94 35 = w1.2.1 94 35 := hI2 94 35 rfl
  have c2_5 : ∀ k, w2.2.1 48 k = w1.2.1 48 k := fun k => hI2 48 k rfl
  have m2_5 : ∀ k, w2.2.1 123 k = w1.2.1 123 k := fun k => hI2 123 k rfl
  have c2_6 : ∀ k, w2.2.1 49 k = w1.2.1 49 k := fun k => hI2 49 k rfl
  have m2_6 : ∀ k, w2.2.1 124 k = w1.2.1 124 k := fun k => hI2 124 k rfl
  have y2_7_0 : ∀ k, w2.2.1 5 k = w1.2.1 5 k := fun k => hI2 5 k rfl
  have y2_7_1 : ∀ k, w2.2.1 98 k = w1.2.1 98 k := fun k => hI2 98 k rfl
  have y2_7_2 : ∀ k, w2.2.1 8 k = w1.2.1 8 k := fun k => hI2 8 k rfl
  have y2_7_3 : ∀ k, w2.2.1 102 k = w1.2.1 102 k := fun k => hI2 102 k rfl
  have y2_7_4 : w2.2.1 1 1 = w1.2.1 1 1 := hI2 1 1 rfl
  refine XW.fam (S' := (1178, [(3, .int i), (2, .ref 94), (1, .ref 0), (0, .retAddr 0)], [], w2)) (M := mr_371) rfl (show mcode 371 1177 = some (1177, .pop, 1, 0, 0, 0, _) from rfl) (Or.inr (Or.inr (Or.inr (Or.inr (Or.inr (Or.inl ⟨_, rfl, rfl⟩)))))) ?_
  refine XW.fam (S' := (2217, [(3, .int i), (2, .ref 94), (1, .ref 0), (0, .retAddr 0)], [], w2)) (M := mr_371) rfl (show mcode 371 1178 = some (1178, .goto 1039, 3, 2217, 0, 0, _) from rfl) (Or.inr (Or.inl ⟨2217, [], rfl, rfl⟩)) ?_
  exact XW.wid (mc := mc) (ms := ms) (by omega) (by omega) (K w2 ⟨hf2, ⟨_, _, hw2⟩, ⟨(c2_0.trans c1_0).trans (hv.1.trans (m1_0.symm.trans m2_0.symm)), (c2_1.trans c1_1).trans (hv.2.1.trans (m1_1.symm.trans m2_1.symm)), (c2_2.trans c1_2).trans (hv.2.2.1.trans (m1_2.symm.trans m2_2.symm)), fun k => ((c2_3 k).trans (c1_3 k)).trans ((hv.2.2.2.1 k).trans ((m1_3 k).symm.trans (m2_3 k).symm)), (c2_4.trans c1_4).trans (hv.2.2.2.2.1.trans (m1_4.symm.trans m2_4.symm)), fun k => ((c2_5 k).trans (c1_5 k)).trans ((hv.2.2.2.2.2.1 k).trans ((m1_5 k).symm.trans (m2_5 k).symm)), fun k => ((c2_6 k).trans (c1_6 k)).trans ((hv.2.2.2.2.2.2.1 k).trans ((m1_6 k).symm.trans (m2_6 k).symm)), RLf_keep (fun k => (y2_7_0 k).trans (y1_7_0 k)) (fun k => (y2_7_1 k).trans (y1_7_1 k)) (fun k => (y2_7_2 k).trans (y1_7_2 k)) (fun k => (y2_7_3 k).trans (y1_7_3 k)) (y2_7_4.trans y1_7_4) hv.2.2.2.2.2.2.2⟩⟩)
set_option maxRecDepth 100000 in
theorem case_25 {Ln : Nat} {xs : Nat → Int32} {mc ms : Nat} {w : mW} {i : Int32} (hi0 : 0 ≤ i.toInt) (hi1 : i.toInt + 6 ≤ Ln) (hL : Ln ≤ 3072) (hV : IV w) (K : ∀ w', IV w' → XW 371 mr_371 (some (Ln, xs)) 91 mc ms Qone (2217, [(3, .int i), (2, .ref 94), (1, .ref 0), (0, .retAddr 0)], [], w')) : XW 371 mr_371 (some (Ln, xs)) 91 (mc + 1) (ms + 240) Qone (1181, [(3, .int i), (2, .ref 94), (1, .ref 0), (0, .retAddr 0)], [], w) := by
  obtain ⟨hf, ⟨sh, R, hw⟩, hv⟩ := hV
  refine XW.fam (S' := (1182, [(3, .int i), (2, .ref 94), (1, .ref 0), (0, .retAddr 0)], [.ref 0], w)) (M := mr_371) rfl (show mcode 371 1181 = some (1181, .aload_n 1, 1, 0, 0, 0, _) from rfl) (Or.inl ⟨.ref 0, rfl, rfl⟩) ?_
  refine lw_ld (pc := 1182) (n := 1) rfl rfl rfl rfl rfl (by decide) hi0 hi1 hL ?_
  refine lw_ld (pc := 1187) (n := 2) rfl rfl rfl rfl rfl (by decide) hi0 hi1 hL ?_
  refine XW.call (d' := 44) (mc' := 0) (ms' := 0) (av := [.ref 0, .int (xs (i + Int32.ofInt 1).toNatClampNeg), .int (xs (i + Int32.ofInt 2).toNatClampNeg)]) (rest := []) (M := mr_371) (Ma := mr_134) rfl (show mcode 371 1192 = some (1192, .invokevirtual 118, 3, 134, 0, 0, _) from rfl) rfl (by decide) (by decide) ⟨rfl, 0, _, rfl, (iv_cell hw).1⟩ rfl rfl (show _ ≤ 8 by decide) (kk_109 [.ref 0, .int (xs (i + Int32.ofInt 1).toNatClampNeg), .int (xs (i + Int32.ofInt 2).toNatClampNeg)] w hw ⟨rfl, any32 _, any32 _, trivial⟩ (fun q hq => by cases hq) hf) (by decide) (by omega) (by omega) (fun r1 w1 hQ1 => ?_)
  obtain ⟨hf1, hw1, hI1, ⟨x1, rfl, -, -⟩, -⟩ := hQ1
  have c1_0 : w1.2.1 1 1 = w.2.1 1 1 := hI1 1 1 rfl
  have m1_0 : w1.2.1 94 2 = w.2.1 94 2 := hI1 94 2 rfl
  have c1_1 : w1.2.1 1 0 = w.2.1 1 0 := hI1 1 0 rfl
  have m1_1 : w1.2.1 94 1 = w.2.1 94 1 := hI1 94 1 rfl
  have c1_2 : w1.2.1 41 0 = w.2.1 41 0 := hI1 41 0 rfl
  have m1_2 : w1.2.1 94 34 = w.2.1 94 34 := hI1 94 34 rfl
  have c1_3 : ∀ k, w1.2.1 42 k = w.2.1 42 k := fun k => hI1 42 k rfl
  have m1_3 : ∀ k, w1.2.1 122 k = w.2.1 122 k := fun k => hI1 122 k rfl
  have c1_4 : w1.2.1 47 3 = w.2.1 47 3 := hI1 47 3 rfl
  have m1_4 : w1.2.1 94 35 = w.2.1 94 35 := hI1 94 35 rfl
  have c1_5 : ∀ k, w1.2.1 48 k = w.2.1 48 k := fun k => hI1 48 k rfl
  have m1_5 : ∀ k, w1.2.1 123 k = w.2.1 123 k := fun k => hI1 123 k rfl
  have c1_6 : ∀ k, w1.2.1 49 k = w.2.1 49 k := fun k => hI1 49 k rfl
  have m1_6 : ∀ k, w1.2.1 124 k = w.2.1 124 k := fun k => hI1 124 k rfl
  have y1_7_0 : ∀ k, w1.2.1 5 k = w.2.1 5 k := fun k => hI1 5 k rfl
  have y1_7_1 : ∀ k, w1.2.1 98 k = w.2.1 98 k := fun k => hI1 98 k rfl
  have y1_7_2 : ∀ k, w1.2.1 8 k = w.2.1 8 k := fun k => hI1 8 k rfl
  have y1_7_3 : ∀ k, w1.2.1 102 k = w.2.1 102 k := fun k => hI1 102 k rfl
  have y1_7_4 : w1.2.1 1 1 = w.2.1 1 1 := hI1 1 1 rfl
  refine XW.fam (S' := (1196, [(3, .int i), (2, .ref 94), (1, .ref 0), (0, .retAddr 0)], [], w1)) (M := mr_371) rfl (show mcode 371 1195 = some (1195, .pop, 1, 0, 0, 0, _) from rfl) (Or.inr (Or.inr (Or.inr (Or.inr (Or.inr (Or.inl ⟨_, rfl, rfl⟩)))))) ?_
  refine XW.fam (S' := (1197, [(3, .int i), (2, .ref 94), (1, .ref 0), (0, .retAddr 0)], [.ref 94], w1)) (M := mr_371) rfl (show mcode 371 1196 = some (1196, .aload_n 2, 1, 0, 0, 0, _) from rfl) (Or.inl ⟨.ref 94, rfl, rfl⟩) ?_
  refine lw_ld (pc := 1197) (n := 1) rfl rfl rfl rfl rfl (by decide) hi0 hi1 hL ?_
  refine lw_ld (pc := 1202) (n := 2) rfl rfl rfl rfl rfl (by decide) hi0 hi1 hL ?_
  refine XW.call (d' := 42) (mc' := 0) (ms' := 0) (av := [.ref 94, .int (xs (i + Int32.ofInt 1).toNatClampNeg), .int (xs (i + Int32.ofInt 2).toNatClampNeg)]) (rest := []) (M := mr_371) (Ma := mr_306) rfl (show mcode 371 1207 = some (1207, .invokevirtual 121, 3, 306, 0, 0, _) from rfl) rfl (by decide) (by decide) ⟨rfl, 94, _, rfl, (iv_cell hw1).2⟩ rfl rfl (show _ ≤ 8 by decide) (kk_320 [.ref 94, .int (xs (i + Int32.ofInt 1).toNatClampNeg), .int (xs (i + Int32.ofInt 2).toNatClampNeg)] w1 hw1 ⟨rfl, any32 _, any32 _, trivial⟩ (fun q hq => by cases hq) hf1) (by decide) (by omega) (by omega) (fun r2 w2 hQ2 => ?_)
  obtain ⟨hf2, hw2, hI2, ⟨x2, rfl, -, -⟩, -⟩ := hQ2
  have c2_0 : w2.2.1 1 1 = w1.2.1 1 1 := hI2 1 1 rfl
  have m2_0 : w2.2.1 94 2 = w1.2.1 94 2 := hI2 94 2 rfl
  have c2_1 : w2.2.1 1 0 = w1.2.1 1 0 := hI2 1 0 rfl
  have m2_1 : w2.2.1 94 1 = w1.2.1 94 1 := hI2 94 1 rfl
  have c2_2 : w2.2.1 41 0 = w1.2.1 41 0 := hI2 41 0 rfl
  have m2_2 : w2.2.1 94 34 = w1.2.1 94 34 := hI2 94 34 rfl
  have c2_3 : ∀ k, w2.2.1 42 k = w1.2.1 42 k := fun k => hI2 42 k rfl
  have m2_3 : ∀ k, w2.2.1 122 k = w1.2.1 122 k := fun k => hI2 122 k rfl
  have c2_4 : w2.2.1 47 3 = w1.2.1 47 3 := hI2 47 3 rfl
  have m2_4 : w2.2.1 94 35 = w1.2.1 94 35 := hI2 94 35 rfl
  have c2_5 : ∀ k, w2.2.1 48 k = w1.2.1 48 k := fun k => hI2 48 k rfl
  have m2_5 : ∀ k, w2.2.1 123 k = w1.2.1 123 k := fun k => hI2 123 k rfl
  have c2_6 : ∀ k, w2.2.1 49 k = w1.2.1 49 k := fun k => hI2 49 k rfl
  have m2_6 : ∀ k, w2.2.1 124 k = w1.2.1 124 k := fun k => hI2 124 k rfl
  have y2_7_0 : ∀ k, w2.2.1 5 k = w1.2.1 5 k := fun k => hI2 5 k rfl
  have y2_7_1 : ∀ k, w2.2.1 98 k = w1.2.1 98 k := fun k => hI2 98 k rfl
  have y2_7_2 : ∀ k, w2.2.1 8 k = w1.2.1 8 k := fun k => hI2 8 k rfl
  have y2_7_3 : ∀ k, w2.2.1 102 k = w1.2.1 102 k := fun k => hI2 102 k rfl
  have y2_7_4 : w2.2.1 1 1 = w1.2.1 1 1 := hI2 1 1 rfl
  refine XW.fam (S' := (1211, [(3, .int i), (2, .ref 94), (1, .ref 0), (0, .retAddr 0)], [], w2)) (M := mr_371) rfl (show mcode 371 1210 = some (1210, .pop, 1, 0, 0, 0, _) from rfl) (Or.inr (Or.inr (Or.inr (Or.inr (Or.inr (Or.inl ⟨_, rfl, rfl⟩)))))) ?_
  refine XW.fam (S' := (2217, [(3, .int i), (2, .ref 94), (1, .ref 0), (0, .retAddr 0)], [], w2)) (M := mr_371) rfl (show mcode 371 1211 = some (1211, .goto 1006, 3, 2217, 0, 0, _) from rfl) (Or.inr (Or.inl ⟨2217, [], rfl, rfl⟩)) ?_
  exact XW.wid (mc := mc) (ms := ms) (by omega) (by omega) (K w2 ⟨hf2, ⟨_, _, hw2⟩, ⟨(c2_0.trans c1_0).trans (hv.1.trans (m1_0.symm.trans m2_0.symm)), (c2_1.trans c1_1).trans (hv.2.1.trans (m1_1.symm.trans m2_1.symm)), (c2_2.trans c1_2).trans (hv.2.2.1.trans (m1_2.symm.trans m2_2.symm)), fun k => ((c2_3 k).trans (c1_3 k)).trans ((hv.2.2.2.1 k).trans ((m1_3 k).symm.trans (m2_3 k).symm)), (c2_4.trans c1_4).trans (hv.2.2.2.2.1.trans (m1_4.symm.trans m2_4.symm)), fun k => ((c2_5 k).trans (c1_5 k)).trans ((hv.2.2.2.2.2.1 k).trans ((m1_5 k).symm.trans (m2_5 k).symm)), fun k => ((c2_6 k).trans (c1_6 k)).trans ((hv.2.2.2.2.2.2.1 k).trans ((m1_6 k).symm.trans (m2_6 k).symm)), RLf_keep (fun k => (y2_7_0 k).trans (y1_7_0 k)) (fun k => (y2_7_1 k).trans (y1_7_1 k)) (fun k => (y2_7_2 k).trans (y1_7_2 k)) (fun k => (y2_7_3 k).trans (y1_7_3 k)) (y2_7_4.trans y1_7_4) hv.2.2.2.2.2.2.2⟩⟩)
set_option maxRecDepth 100000 in
theorem case_26 {Ln : Nat} {xs : Nat → Int32} {mc ms : Nat} {w : mW} {i : Int32} (hi0 : 0 ≤ i.toInt) (hi1 : i.toInt + 6 ≤ Ln) (hL : Ln ≤ 3072) (hV : IV w) (K : ∀ w', IV w' → XW 371 mr_371 (some (Ln, xs)) 91 mc ms Qone (2217, [(3, .int i), (2, .ref 94), (1, .ref 0), (0, .retAddr 0)], [], w')) : XW 371 mr_371 (some (Ln, xs)) 91 (mc + 1) (ms + 240) Qone (1214, [(3, .int i), (2, .ref 94), (1, .ref 0), (0, .retAddr 0)], [], w) := by
  obtain ⟨hf, ⟨sh, R, hw⟩, hv⟩ := hV
  refine XW.fam (S' := (1215, [(3, .int i), (2, .ref 94), (1, .ref 0), (0, .retAddr 0)], [.ref 0], w)) (M := mr_371) rfl (show mcode 371 1214 = some (1214, .aload_n 1, 1, 0, 0, 0, _) from rfl) (Or.inl ⟨.ref 0, rfl, rfl⟩) ?_
  refine lw_ld (pc := 1215) (n := 1) rfl rfl rfl rfl rfl (by decide) hi0 hi1 hL ?_
  refine lw_ld (pc := 1220) (n := 2) rfl rfl rfl rfl rfl (by decide) hi0 hi1 hL ?_
  refine lw_ld (pc := 1225) (n := 3) rfl rfl rfl rfl rfl (by decide) hi0 hi1 hL ?_
  refine XW.call (d' := 41) (mc' := 0) (ms' := 0) (av := [.ref 0, .int (xs (i + Int32.ofInt 1).toNatClampNeg), .int (xs (i + Int32.ofInt 2).toNatClampNeg), .int (xs (i + Int32.ofInt 3).toNatClampNeg)]) (rest := []) (M := mr_371) (Ma := mr_140) rfl (show mcode 371 1230 = some (1230, .invokevirtual 122, 3, 140, 0, 0, _) from rfl) rfl (by decide) (by decide) ⟨rfl, 0, _, rfl, (iv_cell hw).1⟩ rfl rfl (show _ ≤ 8 by decide) (kk_110 [.ref 0, .int (xs (i + Int32.ofInt 1).toNatClampNeg), .int (xs (i + Int32.ofInt 2).toNatClampNeg), .int (xs (i + Int32.ofInt 3).toNatClampNeg)] w hw ⟨rfl, any32 _, any32 _, any32 _, trivial⟩ (fun q hq => by cases hq) hf) (by decide) (by omega) (by omega) (fun r1 w1 hQ1 => ?_)
  obtain ⟨hf1, hw1, hI1, ⟨x1, rfl, -, -⟩, -⟩ := hQ1
  have c1_0 : w1.2.1 1 1 = w.2.1 1 1 := hI1 1 1 rfl
  have m1_0 : w1.2.1 94 2 = w.2.1 94 2 := hI1 94 2 rfl
  have c1_1 : w1.2.1 1 0 = w.2.1 1 0 := hI1 1 0 rfl
  have m1_1 : w1.2.1 94 1 = w.2.1 94 1 := hI1 94 1 rfl
  have c1_2 : w1.2.1 41 0 = w.2.1 41 0 := hI1 41 0 rfl
  have m1_2 : w1.2.1 94 34 = w.2.1 94 34 := hI1 94 34 rfl
  have c1_3 : ∀ k, w1.2.1 42 k = w.2.1 42 k := fun k => hI1 42 k rfl
  have m1_3 : ∀ k, w1.2.1 122 k = w.2.1 122 k := fun k => hI1 122 k rfl
  have c1_4 : w1.2.1 47 3 = w.2.1 47 3 := hI1 47 3 rfl
  have m1_4 : w1.2.1 94 35 = w.2.1 94 35 := hI1 94 35 rfl
  have c1_5 : ∀ k, w1.2.1 48 k = w.2.1 48 k := fun k => hI1 48 k rfl
  have m1_5 : ∀ k, w1.2.1 123 k = w.2.1 123 k := fun k => hI1 123 k rfl
  have c1_6 : ∀ k, w1.2.1 49 k = w.2.1 49 k := fun k => hI1 49 k rfl
  have m1_6 : ∀ k, w1.2.1 124 k = w.2.1 124 k := fun k => hI1 124 k rfl
  have y1_7_0 : ∀ k, w1.2.1 5 k = w.2.1 5 k := fun k => hI1 5 k rfl
  have y1_7_1 : ∀ k, w1.2.1 98 k = w.2.1 98 k := fun k => hI1 98 k rfl
  have y1_7_2 : ∀ k, w1.2.1 8 k = w.2.1 8 k := fun k => hI1 8 k rfl
  have y1_7_3 : ∀ k, w1.2.1 102 k = w.2.1 102 k := fun k => hI1 102 k rfl
  have y1_7_4 : w1.2.1 1 1 = w.2.1 1 1 := hI1 1 1 rfl
  refine XW.fam (S' := (1234, [(3, .int i), (2, .ref 94), (1, .ref 0), (0, .retAddr 0)], [], w1)) (M := mr_371) rfl (show mcode 371 1233 = some (1233, .pop, 1, 0, 0, 0, _) from rfl) (Or.inr (Or.inr (Or.inr (Or.inr (Or.inr (Or.inl ⟨_, rfl, rfl⟩)))))) ?_
  refine XW.fam (S' := (1235, [(3, .int i), (2, .ref 94), (1, .ref 0), (0, .retAddr 0)], [.ref 94], w1)) (M := mr_371) rfl (show mcode 371 1234 = some (1234, .aload_n 2, 1, 0, 0, 0, _) from rfl) (Or.inl ⟨.ref 94, rfl, rfl⟩) ?_
  refine lw_ld (pc := 1235) (n := 1) rfl rfl rfl rfl rfl (by decide) hi0 hi1 hL ?_
  refine lw_ld (pc := 1240) (n := 2) rfl rfl rfl rfl rfl (by decide) hi0 hi1 hL ?_
  refine lw_ld (pc := 1245) (n := 3) rfl rfl rfl rfl rfl (by decide) hi0 hi1 hL ?_
  refine XW.call (d' := 41) (mc' := 0) (ms' := 0) (av := [.ref 94, .int (xs (i + Int32.ofInt 1).toNatClampNeg), .int (xs (i + Int32.ofInt 2).toNatClampNeg), .int (xs (i + Int32.ofInt 3).toNatClampNeg)]) (rest := []) (M := mr_371) (Ma := mr_308) rfl (show mcode 371 1250 = some (1250, .invokevirtual 125, 3, 308, 0, 0, _) from rfl) rfl (by decide) (by decide) ⟨rfl, 94, _, rfl, (iv_cell hw1).2⟩ rfl rfl (show _ ≤ 8 by decide) (kk_321 [.ref 94, .int (xs (i + Int32.ofInt 1).toNatClampNeg), .int (xs (i + Int32.ofInt 2).toNatClampNeg), .int (xs (i + Int32.ofInt 3).toNatClampNeg)] w1 hw1 ⟨rfl, any32 _, any32 _, any32 _, trivial⟩ (fun q hq => by cases hq) hf1) (by decide) (by omega) (by omega) (fun r2 w2 hQ2 => ?_)
  obtain ⟨hf2, hw2, hI2, ⟨x2, rfl, -, -⟩, -⟩ := hQ2
  have c2_0 : w2.2.1 1 1 = w1.2.1 1 1 := hI2 1 1 rfl
  have m2_0 : w2.2.1 94 2 = w1.2.1 94 2 := hI2 94 2 rfl
  have c2_1 : w2.2.1 1 0 = w1.2.1 1 0 := hI2 1 0 rfl
  have m2_1 : w2.2.1 94 1 = w1.2.1 94 1 := hI2 94 1 rfl
  have c2_2 : w2.2.1 41 0 = w1.2.1 41 0 := hI2 41 0 rfl
  have m2_2 : w2.2.1 94 34 = w1.2.1 94 34 := hI2 94 34 rfl
  have c2_3 : ∀ k, w2.2.1 42 k = w1.2.1 42 k := fun k => hI2 42 k rfl
  have m2_3 : ∀ k, w2.2.1 122 k = w1.2.1 122 k := fun k => hI2 122 k rfl
  have c2_4 : w2.2.1 47 3 = w1.2.1 47 3 := hI2 47 3 rfl
  have m2_4 : w2.2.1 94 35 = w1.2.1 94 35 := hI2 94 35 rfl
  have c2_5 : ∀ k, w2.2.1 48 k = w1.2.1 48 k := fun k => hI2 48 k rfl
  have m2_5 : ∀ k, w2.2.1 123 k = w1.2.1 123 k := fun k => hI2 123 k rfl
  have c2_6 : ∀ k, w2.2.1 49 k = w1.2.1 49 k := fun k => hI2 49 k rfl
  have m2_6 : ∀ k, w2.2.1 124 k = w1.2.1 124 k := fun k => hI2 124 k rfl
  have y2_7_0 : ∀ k, w2.2.1 5 k = w1.2.1 5 k := fun k => hI2 5 k rfl
  have y2_7_1 : ∀ k, w2.2.1 98 k = w1.2.1 98 k := fun k => hI2 98 k rfl
  have y2_7_2 : ∀ k, w2.2.1 8 k = w1.2.1 8 k := fun k => hI2 8 k rfl
  have y2_7_3 : ∀ k, w2.2.1 102 k = w1.2.1 102 k := fun k => hI2 102 k rfl
  have y2_7_4 : w2.2.1 1 1 = w1.2.1 1 1 := hI2 1 1 rfl
  refine XW.fam (S' := (1254, [(3, .int i), (2, .ref 94), (1, .ref 0), (0, .retAddr 0)], [], w2)) (M := mr_371) rfl (show mcode 371 1253 = some (1253, .pop, 1, 0, 0, 0, _) from rfl) (Or.inr (Or.inr (Or.inr (Or.inr (Or.inr (Or.inl ⟨_, rfl, rfl⟩)))))) ?_
  refine XW.fam (S' := (2217, [(3, .int i), (2, .ref 94), (1, .ref 0), (0, .retAddr 0)], [], w2)) (M := mr_371) rfl (show mcode 371 1254 = some (1254, .goto 963, 3, 2217, 0, 0, _) from rfl) (Or.inr (Or.inl ⟨2217, [], rfl, rfl⟩)) ?_
  exact XW.wid (mc := mc) (ms := ms) (by omega) (by omega) (K w2 ⟨hf2, ⟨_, _, hw2⟩, ⟨(c2_0.trans c1_0).trans (hv.1.trans (m1_0.symm.trans m2_0.symm)), (c2_1.trans c1_1).trans (hv.2.1.trans (m1_1.symm.trans m2_1.symm)), (c2_2.trans c1_2).trans (hv.2.2.1.trans (m1_2.symm.trans m2_2.symm)), fun k => ((c2_3 k).trans (c1_3 k)).trans ((hv.2.2.2.1 k).trans ((m1_3 k).symm.trans (m2_3 k).symm)), (c2_4.trans c1_4).trans (hv.2.2.2.2.1.trans (m1_4.symm.trans m2_4.symm)), fun k => ((c2_5 k).trans (c1_5 k)).trans ((hv.2.2.2.2.2.1 k).trans ((m1_5 k).symm.trans (m2_5 k).symm)), fun k => ((c2_6 k).trans (c1_6 k)).trans ((hv.2.2.2.2.2.2.1 k).trans ((m1_6 k).symm.trans (m2_6 k).symm)), RLf_keep (fun k => (y2_7_0 k).trans (y1_7_0 k)) (fun k => (y2_7_1 k).trans (y1_7_1 k)) (fun k => (y2_7_2 k).trans (y1_7_2 k)) (fun k => (y2_7_3 k).trans (y1_7_3 k)) (y2_7_4.trans y1_7_4) hv.2.2.2.2.2.2.2⟩⟩)
set_option maxRecDepth 100000 in
theorem case_27 {Ln : Nat} {xs : Nat → Int32} {mc ms : Nat} {w : mW} {i : Int32} (hi0 : 0 ≤ i.toInt) (hi1 : i.toInt + 6 ≤ Ln) (hL : Ln ≤ 3072) (hV : IV w) (K : ∀ w', IV w' → XW 371 mr_371 (some (Ln, xs)) 91 mc ms Qone (2217, [(3, .int i), (2, .ref 94), (1, .ref 0), (0, .retAddr 0)], [], w')) : XW 371 mr_371 (some (Ln, xs)) 91 (mc + 1) (ms + 240) Qone (1257, [(3, .int i), (2, .ref 94), (1, .ref 0), (0, .retAddr 0)], [], w) := by
  obtain ⟨hf, ⟨sh, R, hw⟩, hv⟩ := hV
  refine XW.fam (S' := (1258, [(3, .int i), (2, .ref 94), (1, .ref 0), (0, .retAddr 0)], [.ref 0], w)) (M := mr_371) rfl (show mcode 371 1257 = some (1257, .aload_n 1, 1, 0, 0, 0, _) from rfl) (Or.inl ⟨.ref 0, rfl, rfl⟩) ?_
  refine lw_ld (pc := 1258) (n := 1) rfl rfl rfl rfl rfl (by decide) hi0 hi1 hL ?_
  refine lw_ld (pc := 1263) (n := 2) rfl rfl rfl rfl rfl (by decide) hi0 hi1 hL ?_
  refine XW.call (d' := 41) (mc' := 0) (ms' := 0) (av := [.ref 0, .int (xs (i + Int32.ofInt 1).toNatClampNeg), .int (xs (i + Int32.ofInt 2).toNatClampNeg)]) (rest := []) (M := mr_371) (Ma := mr_142) rfl (show mcode 371 1268 = some (1268, .invokevirtual 126, 3, 142, 0, 0, _) from rfl) rfl (by decide) (by decide) ⟨rfl, 0, _, rfl, (iv_cell hw).1⟩ rfl rfl (show _ ≤ 8 by decide) (kk_111 [.ref 0, .int (xs (i + Int32.ofInt 1).toNatClampNeg), .int (xs (i + Int32.ofInt 2).toNatClampNeg)] w hw ⟨rfl, any32 _, any32 _, trivial⟩ (fun q hq => by cases hq) hf) (by decide) (by omega) (by omega) (fun r1 w1 hQ1 => ?_)
  obtain ⟨hf1, hw1, hI1, ⟨x1, rfl, -, -⟩, -⟩ := hQ1
  have c1_0 : w1.2.1 1 1 = w.2.1 1 1 := hI1 1 1 rfl
  have m1_0 : w1.2.1 94 2 = w.2.1 94 2 := hI1 94 2 rfl
  have c1_1 : w1.2.1 1 0 = w.2.1 1 0 := hI1 1 0 rfl
  have m1_1 : w1.2.1 94 1 = w.2.1 94 1 := hI1 94 1 rfl
  have c1_2 : w1.2.1 41 0 = w.2.1 41 0 := hI1 41 0 rfl
  have m1_2 : w1.2.1 94 34 = w.2.1 94 34 := hI1 94 34 rfl
  have c1_3 : ∀ k, w1.2.1 42 k = w.2.1 42 k := fun k => hI1 42 k rfl
  have m1_3 : ∀ k, w1.2.1 122 k = w.2.1 122 k := fun k => hI1 122 k rfl
  have c1_4 : w1.2.1 47 3 = w.2.1 47 3 := hI1 47 3 rfl
  have m1_4 : w1.2.1 94 35 = w.2.1 94 35 := hI1 94 35 rfl
  have c1_5 : ∀ k, w1.2.1 48 k = w.2.1 48 k := fun k => hI1 48 k rfl
  have m1_5 : ∀ k, w1.2.1 123 k = w.2.1 123 k := fun k => hI1 123 k rfl
  have c1_6 : ∀ k, w1.2.1 49 k = w.2.1 49 k := fun k => hI1 49 k rfl
  have m1_6 : ∀ k, w1.2.1 124 k = w.2.1 124 k := fun k => hI1 124 k rfl
  have y1_7_0 : ∀ k, w1.2.1 5 k = w.2.1 5 k := fun k => hI1 5 k rfl
  have y1_7_1 : ∀ k, w1.2.1 98 k = w.2.1 98 k := fun k => hI1 98 k rfl
  have y1_7_2 : ∀ k, w1.2.1 8 k = w.2.1 8 k := fun k => hI1 8 k rfl
  have y1_7_3 : ∀ k, w1.2.1 102 k = w.2.1 102 k := fun k => hI1 102 k rfl
  have y1_7_4 : w1.2.1 1 1 = w.2.1 1 1 := hI1 1 1 rfl
  refine XW.fam (S' := (1272, [(3, .int i), (2, .ref 94), (1, .ref 0), (0, .retAddr 0)], [], w1)) (M := mr_371) rfl (show mcode 371 1271 = some (1271, .pop, 1, 0, 0, 0, _) from rfl) (Or.inr (Or.inr (Or.inr (Or.inr (Or.inr (Or.inl ⟨_, rfl, rfl⟩)))))) ?_
  refine XW.fam (S' := (1273, [(3, .int i), (2, .ref 94), (1, .ref 0), (0, .retAddr 0)], [.ref 94], w1)) (M := mr_371) rfl (show mcode 371 1272 = some (1272, .aload_n 2, 1, 0, 0, 0, _) from rfl) (Or.inl ⟨.ref 94, rfl, rfl⟩) ?_
  refine lw_ld (pc := 1273) (n := 1) rfl rfl rfl rfl rfl (by decide) hi0 hi1 hL ?_
  refine lw_ld (pc := 1278) (n := 2) rfl rfl rfl rfl rfl (by decide) hi0 hi1 hL ?_
  refine XW.call (d' := 41) (mc' := 0) (ms' := 0) (av := [.ref 94, .int (xs (i + Int32.ofInt 1).toNatClampNeg), .int (xs (i + Int32.ofInt 2).toNatClampNeg)]) (rest := []) (M := mr_371) (Ma := mr_310) rfl (show mcode 371 1283 = some (1283, .invokevirtual 129, 3, 310, 0, 0, _) from rfl) rfl (by decide) (by decide) ⟨rfl, 94, _, rfl, (iv_cell hw1).2⟩ rfl rfl (show _ ≤ 8 by decide) (kk_322 [.ref 94, .int (xs (i + Int32.ofInt 1).toNatClampNeg), .int (xs (i + Int32.ofInt 2).toNatClampNeg)] w1 hw1 ⟨rfl, any32 _, any32 _, trivial⟩ (fun q hq => by cases hq) hf1) (by decide) (by omega) (by omega) (fun r2 w2 hQ2 => ?_)
  obtain ⟨hf2, hw2, hI2, ⟨x2, rfl, -, -⟩, -⟩ := hQ2
  have c2_0 : w2.2.1 1 1 = w1.2.1 1 1 := hI2 1 1 rfl
  have m2_0 : w2.2.1 94 2 = w1.2.1 94 2 := hI2 94 2 rfl
  have c2_1 : w2.2.1 1 0 = w1.2.1 1 0 := hI2 1 0 rfl
  have m2_1 : w2.2.1 94 1 = w1.2.1 94 1 := hI2 94 1 rfl
  have c2_2 : w2.2.1 41 0 = w1.2.1 41 0 := hI2 41 0 rfl
  have m2_2 : w2.2.1 94 34 = w1.2.1 94 34 := hI2 94 34 rfl
  have c2_3 : ∀ k, w2.2.1 42 k = w1.2.1 42 k := fun k => hI2 42 k rfl
  have m2_3 : ∀ k, w2.2.1 122 k = w1.2.1 122 k := fun k => hI2 122 k rfl
  have c2_4 : w2.2.1 47 3 = w1.2.1 47 3 := hI2 47 3 rfl
  have m2_4 : w2.2.1 94 35 = w1.2.1 94 35 := hI2 94 35 rfl
  have c2_5 : ∀ k, w2.2.1 48 k = w1.2.1 48 k := fun k => hI2 48 k rfl
  have m2_5 : ∀ k, w2.2.1 123 k = w1.2.1 123 k := fun k => hI2 123 k rfl
  have c2_6 : ∀ k, w2.2.1 49 k = w1.2.1 49 k := fun k => hI2 49 k rfl
  have m2_6 : ∀ k, w2.2.1 124 k = w1.2.1 124 k := fun k => hI2 124 k rfl
  have y2_7_0 : ∀ k, w2.2.1 5 k = w1.2.1 5 k := fun k => hI2 5 k rfl
  have y2_7_1 : ∀ k, w2.2.1 98 k = w1.2.1 98 k := fun k => hI2 98 k rfl
  have y2_7_2 : ∀ k, w2.2.1 8 k = w1.2.1 8 k := fun k => hI2 8 k rfl
  have y2_7_3 : ∀ k, w2.2.1 102 k = w1.2.1 102 k := fun k => hI2 102 k rfl
  have y2_7_4 : w2.2.1 1 1 = w1.2.1 1 1 := hI2 1 1 rfl
  refine XW.fam (S' := (1287, [(3, .int i), (2, .ref 94), (1, .ref 0), (0, .retAddr 0)], [], w2)) (M := mr_371) rfl (show mcode 371 1286 = some (1286, .pop, 1, 0, 0, 0, _) from rfl) (Or.inr (Or.inr (Or.inr (Or.inr (Or.inr (Or.inl ⟨_, rfl, rfl⟩)))))) ?_
  refine XW.fam (S' := (2217, [(3, .int i), (2, .ref 94), (1, .ref 0), (0, .retAddr 0)], [], w2)) (M := mr_371) rfl (show mcode 371 1287 = some (1287, .goto 930, 3, 2217, 0, 0, _) from rfl) (Or.inr (Or.inl ⟨2217, [], rfl, rfl⟩)) ?_
  exact XW.wid (mc := mc) (ms := ms) (by omega) (by omega) (K w2 ⟨hf2, ⟨_, _, hw2⟩, ⟨(c2_0.trans c1_0).trans (hv.1.trans (m1_0.symm.trans m2_0.symm)), (c2_1.trans c1_1).trans (hv.2.1.trans (m1_1.symm.trans m2_1.symm)), (c2_2.trans c1_2).trans (hv.2.2.1.trans (m1_2.symm.trans m2_2.symm)), fun k => ((c2_3 k).trans (c1_3 k)).trans ((hv.2.2.2.1 k).trans ((m1_3 k).symm.trans (m2_3 k).symm)), (c2_4.trans c1_4).trans (hv.2.2.2.2.1.trans (m1_4.symm.trans m2_4.symm)), fun k => ((c2_5 k).trans (c1_5 k)).trans ((hv.2.2.2.2.2.1 k).trans ((m1_5 k).symm.trans (m2_5 k).symm)), fun k => ((c2_6 k).trans (c1_6 k)).trans ((hv.2.2.2.2.2.2.1 k).trans ((m1_6 k).symm.trans (m2_6 k).symm)), RLf_keep (fun k => (y2_7_0 k).trans (y1_7_0 k)) (fun k => (y2_7_1 k).trans (y1_7_1 k)) (fun k => (y2_7_2 k).trans (y1_7_2 k)) (fun k => (y2_7_3 k).trans (y1_7_3 k)) (y2_7_4.trans y1_7_4) hv.2.2.2.2.2.2.2⟩⟩)
set_option maxRecDepth 100000 in
theorem case_28 {Ln : Nat} {xs : Nat → Int32} {mc ms : Nat} {w : mW} {i : Int32} (hi0 : 0 ≤ i.toInt) (hi1 : i.toInt + 6 ≤ Ln) (hL : Ln ≤ 3072) (hV : IV w) (K : ∀ w', IV w' → XW 371 mr_371 (some (Ln, xs)) 91 mc ms Qone (2217, [(3, .int i), (2, .ref 94), (1, .ref 0), (0, .retAddr 0)], [], w')) : XW 371 mr_371 (some (Ln, xs)) 91 (mc + 1) (ms + 240) Qone (1290, [(3, .int i), (2, .ref 94), (1, .ref 0), (0, .retAddr 0)], [], w) := by
  obtain ⟨hf, ⟨sh, R, hw⟩, hv⟩ := hV
  refine XW.fam (S' := (1291, [(3, .int i), (2, .ref 94), (1, .ref 0), (0, .retAddr 0)], [.ref 0], w)) (M := mr_371) rfl (show mcode 371 1290 = some (1290, .aload_n 1, 1, 0, 0, 0, _) from rfl) (Or.inl ⟨.ref 0, rfl, rfl⟩) ?_
  refine lw_ld (pc := 1291) (n := 1) rfl rfl rfl rfl rfl (by decide) hi0 hi1 hL ?_
  refine lw_ld (pc := 1296) (n := 2) rfl rfl rfl rfl rfl (by decide) hi0 hi1 hL ?_
  refine XW.call (d' := 47) (mc' := 0) (ms' := 0) (av := [.ref 0, .int (xs (i + Int32.ofInt 1).toNatClampNeg), .int (xs (i + Int32.ofInt 2).toNatClampNeg)]) (rest := []) (M := mr_371) (Ma := mr_144) rfl (show mcode 371 1301 = some (1301, .invokevirtual 130, 3, 144, 0, 0, _) from rfl) rfl (by decide) (by decide) ⟨rfl, 0, _, rfl, (iv_cell hw).1⟩ rfl rfl (show _ ≤ 8 by decide) (kk_112 [.ref 0, .int (xs (i + Int32.ofInt 1).toNatClampNeg), .int (xs (i + Int32.ofInt 2).toNatClampNeg)] w hw ⟨rfl, any32 _, any32 _, trivial⟩ (fun q hq => by cases hq) hf) (by decide) (by omega) (by omega) (fun r1 w1 hQ1 => ?_)
  obtain ⟨hf1, hw1, hI1, ⟨x1, rfl, -, -⟩, -⟩ := hQ1
  have c1_0 : w1.2.1 1 1 = w.2.1 1 1 := hI1 1 1 rfl
  have m1_0 : w1.2.1 94 2 = w.2.1 94 2 := hI1 94 2 rfl
  have c1_1 : w1.2.1 1 0 = w.2.1 1 0 := hI1 1 0 rfl
  have m1_1 : w1.2.1 94 1 = w.2.1 94 1 := hI1 94 1 rfl
  have c1_2 : w1.2.1 41 0 = w.2.1 41 0 := hI1 41 0 rfl
  have m1_2 : w1.2.1 94 34 = w.2.1 94 34 := hI1 94 34 rfl
  have c1_3 : ∀ k, w1.2.1 42 k = w.2.1 42 k := fun k => hI1 42 k rfl
  have m1_3 : ∀ k, w1.2.1 122 k = w.2.1 122 k := fun k => hI1 122 k rfl
  have c1_4 : w1.2.1 47 3 = w.2.1 47 3 := hI1 47 3 rfl
  have m1_4 : w1.2.1 94 35 = w.2.1 94 35 := hI1 94 35 rfl
  have c1_5 : ∀ k, w1.2.1 48 k = w.2.1 48 k := fun k => hI1 48 k rfl
  have m1_5 : ∀ k, w1.2.1 123 k = w.2.1 123 k := fun k => hI1 123 k rfl
  have c1_6 : ∀ k, w1.2.1 49 k = w.2.1 49 k := fun k => hI1 49 k rfl
  have m1_6 : ∀ k, w1.2.1 124 k = w.2.1 124 k := fun k => hI1 124 k rfl
  have y1_7_0 : ∀ k, w1.2.1 5 k = w.2.1 5 k := fun k => hI1 5 k rfl
  have y1_7_1 : ∀ k, w1.2.1 98 k = w.2.1 98 k := fun k => hI1 98 k rfl
  have y1_7_2 : ∀ k, w1.2.1 8 k = w.2.1 8 k := fun k => hI1 8 k rfl
  have y1_7_3 : ∀ k, w1.2.1 102 k = w.2.1 102 k := fun k => hI1 102 k rfl
  have y1_7_4 : w1.2.1 1 1 = w.2.1 1 1 := hI1 1 1 rfl
  refine XW.fam (S' := (1305, [(3, .int i), (2, .ref 94), (1, .ref 0), (0, .retAddr 0)], [], w1)) (M := mr_371) rfl (show mcode 371 1304 = some (1304, .pop, 1, 0, 0, 0, _) from rfl) (Or.inr (Or.inr (Or.inr (Or.inr (Or.inr (Or.inl ⟨_, rfl, rfl⟩)))))) ?_
  refine XW.fam (S' := (1306, [(3, .int i), (2, .ref 94), (1, .ref 0), (0, .retAddr 0)], [.ref 94], w1)) (M := mr_371) rfl (show mcode 371 1305 = some (1305, .aload_n 2, 1, 0, 0, 0, _) from rfl) (Or.inl ⟨.ref 94, rfl, rfl⟩) ?_
  refine lw_ld (pc := 1306) (n := 1) rfl rfl rfl rfl rfl (by decide) hi0 hi1 hL ?_
  refine lw_ld (pc := 1311) (n := 2) rfl rfl rfl rfl rfl (by decide) hi0 hi1 hL ?_
  refine XW.call (d' := 47) (mc' := 0) (ms' := 0) (av := [.ref 94, .int (xs (i + Int32.ofInt 1).toNatClampNeg), .int (xs (i + Int32.ofInt 2).toNatClampNeg)]) (rest := []) (M := mr_371) (Ma := mr_312) rfl (show mcode 371 1316 = some (1316, .invokevirtual 133, 3, 312, 0, 0, _) from rfl) rfl (by decide) (by decide) ⟨rfl, 94, _, rfl, (iv_cell hw1).2⟩ rfl rfl (show _ ≤ 8 by decide) (kk_325 [.ref 94, .int (xs (i + Int32.ofInt 1).toNatClampNeg), .int (xs (i + Int32.ofInt 2).toNatClampNeg)] w1 hw1 ⟨rfl, any32 _, any32 _, trivial⟩ (fun q hq => by cases hq) hf1) (by decide) (by omega) (by omega) (fun r2 w2 hQ2 => ?_)
  obtain ⟨hf2, hw2, hI2, ⟨x2, rfl, -, -⟩, -⟩ := hQ2
  have c2_0 : w2.2.1 1 1 = w1.2.1 1 1 := hI2 1 1 rfl
  have m2_0 : w2.2.1 94 2 = w1.2.1 94 2 := hI2 94 2 rfl
  have c2_1 : w2.2.1 1 0 = w1.2.1 1 0 := hI2 1 0 rfl
  have m2_1 : w2.2.1 94 1 = w1.2.1 94 1 := hI2 94 1 rfl
  have c2_2 : w2.2.1 41 0 = w1.2.1 41 0 := hI2 41 0 rfl
  have m2_2 : w2.2.1 94 34 = w1.2.1 94 34 := hI2 94 34 rfl
  have c2_3 : ∀ k, w2.2.1 42 k = w1.2.1 42 k := fun k => hI2 42 k rfl
  have m2_3 : ∀ k, w2.2.1 122 k = w1.2.1 122 k := fun k => hI2 122 k rfl
  have c2_4 : w2.2.1 47 3 = w1.2.1 47 3 := hI2 47 3 rfl
  have m2_4 : w2.2.1 94 35 = w1.2.1 94 35 := hI2 94 35 rfl
  have c2_5 : ∀ k, w2.2.1 48 k = w1.2.1 48 k := fun k => hI2 48 k rfl
  have m2_5 : ∀ k, w2.2.1 123 k = w1.2.1 123 k := fun k => hI2 123 k rfl
  have c2_6 : ∀ k, w2.2.1 49 k = w1.2.1 49 k := fun k => hI2 49 k rfl
  have m2_6 : ∀ k, w2.2.1 124 k = w1.2.1 124 k := fun k => hI2 124 k rfl
  have y2_7_0 : ∀ k, w2.2.1 5 k = w1.2.1 5 k := fun k => hI2 5 k rfl
  have y2_7_1 : ∀ k, w2.2.1 98 k = w1.2.1 98 k := fun k => hI2 98 k rfl
  have y2_7_2 : ∀ k, w2.2.1 8 k = w1.2.1 8 k := fun k => hI2 8 k rfl
  have y2_7_3 : ∀ k, w2.2.1 102 k = w1.2.1 102 k := fun k => hI2 102 k rfl
  have y2_7_4 : w2.2.1 1 1 = w1.2.1 1 1 := hI2 1 1 rfl
  refine XW.fam (S' := (1320, [(3, .int i), (2, .ref 94), (1, .ref 0), (0, .retAddr 0)], [], w2)) (M := mr_371) rfl (show mcode 371 1319 = some (1319, .pop, 1, 0, 0, 0, _) from rfl) (Or.inr (Or.inr (Or.inr (Or.inr (Or.inr (Or.inl ⟨_, rfl, rfl⟩)))))) ?_
  refine XW.fam (S' := (2217, [(3, .int i), (2, .ref 94), (1, .ref 0), (0, .retAddr 0)], [], w2)) (M := mr_371) rfl (show mcode 371 1320 = some (1320, .goto 897, 3, 2217, 0, 0, _) from rfl) (Or.inr (Or.inl ⟨2217, [], rfl, rfl⟩)) ?_
  exact XW.wid (mc := mc) (ms := ms) (by omega) (by omega) (K w2 ⟨hf2, ⟨_, _, hw2⟩, ⟨(c2_0.trans c1_0).trans (hv.1.trans (m1_0.symm.trans m2_0.symm)), (c2_1.trans c1_1).trans (hv.2.1.trans (m1_1.symm.trans m2_1.symm)), (c2_2.trans c1_2).trans (hv.2.2.1.trans (m1_2.symm.trans m2_2.symm)), fun k => ((c2_3 k).trans (c1_3 k)).trans ((hv.2.2.2.1 k).trans ((m1_3 k).symm.trans (m2_3 k).symm)), (c2_4.trans c1_4).trans (hv.2.2.2.2.1.trans (m1_4.symm.trans m2_4.symm)), fun k => ((c2_5 k).trans (c1_5 k)).trans ((hv.2.2.2.2.2.1 k).trans ((m1_5 k).symm.trans (m2_5 k).symm)), fun k => ((c2_6 k).trans (c1_6 k)).trans ((hv.2.2.2.2.2.2.1 k).trans ((m1_6 k).symm.trans (m2_6 k).symm)), RLf_keep (fun k => (y2_7_0 k).trans (y1_7_0 k)) (fun k => (y2_7_1 k).trans (y1_7_1 k)) (fun k => (y2_7_2 k).trans (y1_7_2 k)) (fun k => (y2_7_3 k).trans (y1_7_3 k)) (y2_7_4.trans y1_7_4) hv.2.2.2.2.2.2.2⟩⟩)
set_option maxRecDepth 100000 in
theorem case_29 {Ln : Nat} {xs : Nat → Int32} {mc ms : Nat} {w : mW} {i : Int32} (hi0 : 0 ≤ i.toInt) (hi1 : i.toInt + 6 ≤ Ln) (hL : Ln ≤ 3072) (hV : IV w) (K : ∀ w', IV w' → XW 371 mr_371 (some (Ln, xs)) 91 mc ms Qone (2217, [(3, .int i), (2, .ref 94), (1, .ref 0), (0, .retAddr 0)], [], w')) : XW 371 mr_371 (some (Ln, xs)) 91 (mc + 1) (ms + 240) Qone (1323, [(3, .int i), (2, .ref 94), (1, .ref 0), (0, .retAddr 0)], [], w) := by
  obtain ⟨hf, ⟨sh, R, hw⟩, hv⟩ := hV
  refine XW.fam (S' := (1324, [(3, .int i), (2, .ref 94), (1, .ref 0), (0, .retAddr 0)], [.ref 0], w)) (M := mr_371) rfl (show mcode 371 1323 = some (1323, .aload_n 1, 1, 0, 0, 0, _) from rfl) (Or.inl ⟨.ref 0, rfl, rfl⟩) ?_
  refine lw_ld (pc := 1324) (n := 1) rfl rfl rfl rfl rfl (by decide) hi0 hi1 hL ?_
  refine XW.call (d' := 47) (mc' := 0) (ms' := 0) (av := [.ref 0, .int (xs (i + Int32.ofInt 1).toNatClampNeg)]) (rest := []) (M := mr_371) (Ma := mr_149) rfl (show mcode 371 1329 = some (1329, .invokevirtual 134, 3, 149, 0, 0, _) from rfl) rfl (by decide) (by decide) ⟨rfl, 0, _, rfl, (iv_cell hw).1⟩ rfl rfl (show _ ≤ 8 by decide) (kk_118 [.ref 0, .int (xs (i + Int32.ofInt 1).toNatClampNeg)] w hw ⟨rfl, any32 _, trivial⟩ (fun q hq => by cases hq) hf) (by decide) (by omega) (by omega) (fun r1 w1 hQ1 => ?_)
  obtain ⟨hf1, hw1, hI1, ⟨x1, rfl, -, -⟩, -⟩ := hQ1
  have c1_0 : w1.2.1 1 1 = w.2.1 1 1 := hI1 1 1 rfl
  have m1_0 : w1.2.1 94 2 = w.2.1 94 2 := hI1 94 2 rfl
  have c1_1 : w1.2.1 1 0 = w.2.1 1 0 := hI1 1 0 rfl
  have m1_1 : w1.2.1 94 1 = w.2.1 94 1 := hI1 94 1 rfl
  have c1_2 : w1.2.1 41 0 = w.2.1 41 0 := hI1 41 0 rfl
  have m1_2 : w1.2.1 94 34 = w.2.1 94 34 := hI1 94 34 rfl
  have c1_3 : ∀ k, w1.2.1 42 k = w.2.1 42 k := fun k => hI1 42 k rfl
  have m1_3 : ∀ k, w1.2.1 122 k = w.2.1 122 k := fun k => hI1 122 k rfl
  have c1_4 : w1.2.1 47 3 = w.2.1 47 3 := hI1 47 3 rfl
  have m1_4 : w1.2.1 94 35 = w.2.1 94 35 := hI1 94 35 rfl
  have c1_5 : ∀ k, w1.2.1 48 k = w.2.1 48 k := fun k => hI1 48 k rfl
  have m1_5 : ∀ k, w1.2.1 123 k = w.2.1 123 k := fun k => hI1 123 k rfl
  have c1_6 : ∀ k, w1.2.1 49 k = w.2.1 49 k := fun k => hI1 49 k rfl
  have m1_6 : ∀ k, w1.2.1 124 k = w.2.1 124 k := fun k => hI1 124 k rfl
  have y1_7_0 : ∀ k, w1.2.1 5 k = w.2.1 5 k := fun k => hI1 5 k rfl
  have y1_7_1 : ∀ k, w1.2.1 98 k = w.2.1 98 k := fun k => hI1 98 k rfl
  have y1_7_2 : ∀ k, w1.2.1 8 k = w.2.1 8 k := fun k => hI1 8 k rfl
  have y1_7_3 : ∀ k, w1.2.1 102 k = w.2.1 102 k := fun k => hI1 102 k rfl
  have y1_7_4 : w1.2.1 1 1 = w.2.1 1 1 := hI1 1 1 rfl
  refine XW.fam (S' := (1333, [(3, .int i), (2, .ref 94), (1, .ref 0), (0, .retAddr 0)], [], w1)) (M := mr_371) rfl (show mcode 371 1332 = some (1332, .pop, 1, 0, 0, 0, _) from rfl) (Or.inr (Or.inr (Or.inr (Or.inr (Or.inr (Or.inl ⟨_, rfl, rfl⟩)))))) ?_
  refine XW.fam (S' := (1334, [(3, .int i), (2, .ref 94), (1, .ref 0), (0, .retAddr 0)], [.ref 94], w1)) (M := mr_371) rfl (show mcode 371 1333 = some (1333, .aload_n 2, 1, 0, 0, 0, _) from rfl) (Or.inl ⟨.ref 94, rfl, rfl⟩) ?_
  refine lw_ld (pc := 1334) (n := 1) rfl rfl rfl rfl rfl (by decide) hi0 hi1 hL ?_
  refine XW.call (d' := 48) (mc' := 0) (ms' := 0) (av := [.ref 94, .int (xs (i + Int32.ofInt 1).toNatClampNeg)]) (rest := []) (M := mr_371) (Ma := mr_316) rfl (show mcode 371 1339 = some (1339, .invokevirtual 137, 3, 316, 0, 0, _) from rfl) rfl (by decide) (by decide) ⟨rfl, 94, _, rfl, (iv_cell hw1).2⟩ rfl rfl (show _ ≤ 8 by decide) (kk_327 [.ref 94, .int (xs (i + Int32.ofInt 1).toNatClampNeg)] w1 hw1 ⟨rfl, any32 _, trivial⟩ (fun q hq => by cases hq) hf1) (by decide) (by omega) (by omega) (fun r2 w2 hQ2 => ?_)
  obtain ⟨hf2, hw2, hI2, ⟨x2, rfl, -, -⟩, -⟩ := hQ2
  have c2_0 : w2.2.1 1 1 = w1.2.1 1 1 := hI2 1 1 rfl
  have m2_0 : w2.2.1 94 2 = w1.2.1 94 2 := hI2 94 2 rfl
  have c2_1 : w2.2.1 1 0 = w1.2.1 1 0 := hI2 1 0 rfl
  have m2_1 : w2.2.1 94 1 = w1.2.1 94 1 := hI2 94 1 rfl
  have c2_2 : w2.2.1 41 0 = w1.2.1 41 0 := hI2 41 0 rfl
  have m2_2 : w2.2.1 94 34 = w1.2.1 94 34 := hI2 94 34 rfl
  have c2_3 : ∀ k, w2.2.1 42 k = w1.2.1 42 k := fun k => hI2 42 k rfl
  have m2_3 : ∀ k, w2.2.1 122 k = w1.2.1 122 k := fun k => hI2 122 k rfl
  have c2_4 : w2.2.1 47 3 = w1.2.1 47 3 := hI2 47 3 rfl
  have m2_4 : w2.2.1 94 35 = w1.2.1 94 35 := hI2 94 35 rfl
  have c2_5 : ∀ k, w2.2.1 48 k = w1.2.1 48 k := fun k => hI2 48 k rfl
  have m2_5 : ∀ k, w2.2.1 123 k = w1.2.1 123 k := fun k => hI2 123 k rfl
  have c2_6 : ∀ k, w2.2.1 49 k = w1.2.1 49 k := fun k => hI2 49 k rfl
  have m2_6 : ∀ k, w2.2.1 124 k = w1.2.1 124 k := fun k => hI2 124 k rfl
  have y2_7_0 : ∀ k, w2.2.1 5 k = w1.2.1 5 k := fun k => hI2 5 k rfl
  have y2_7_1 : ∀ k, w2.2.1 98 k = w1.2.1 98 k := fun k => hI2 98 k rfl
  have y2_7_2 : ∀ k, w2.2.1 8 k = w1.2.1 8 k := fun k => hI2 8 k rfl
  have y2_7_3 : ∀ k, w2.2.1 102 k = w1.2.1 102 k := fun k => hI2 102 k rfl
  have y2_7_4 : w2.2.1 1 1 = w1.2.1 1 1 := hI2 1 1 rfl
  refine XW.fam (S' := (1343, [(3, .int i), (2, .ref 94), (1, .ref 0), (0, .retAddr 0)], [], w2)) (M := mr_371) rfl (show mcode 371 1342 = some (1342, .pop, 1, 0, 0, 0, _) from rfl) (Or.inr (Or.inr (Or.inr (Or.inr (Or.inr (Or.inl ⟨_, rfl, rfl⟩)))))) ?_
  refine XW.fam (S' := (2217, [(3, .int i), (2, .ref 94), (1, .ref 0), (0, .retAddr 0)], [], w2)) (M := mr_371) rfl (show mcode 371 1343 = some (1343, .goto 874, 3, 2217, 0, 0, _) from rfl) (Or.inr (Or.inl ⟨2217, [], rfl, rfl⟩)) ?_
  exact XW.wid (mc := mc) (ms := ms) (by omega) (by omega) (K w2 ⟨hf2, ⟨_, _, hw2⟩, ⟨(c2_0.trans c1_0).trans (hv.1.trans (m1_0.symm.trans m2_0.symm)), (c2_1.trans c1_1).trans (hv.2.1.trans (m1_1.symm.trans m2_1.symm)), (c2_2.trans c1_2).trans (hv.2.2.1.trans (m1_2.symm.trans m2_2.symm)), fun k => ((c2_3 k).trans (c1_3 k)).trans ((hv.2.2.2.1 k).trans ((m1_3 k).symm.trans (m2_3 k).symm)), (c2_4.trans c1_4).trans (hv.2.2.2.2.1.trans (m1_4.symm.trans m2_4.symm)), fun k => ((c2_5 k).trans (c1_5 k)).trans ((hv.2.2.2.2.2.1 k).trans ((m1_5 k).symm.trans (m2_5 k).symm)), fun k => ((c2_6 k).trans (c1_6 k)).trans ((hv.2.2.2.2.2.2.1 k).trans ((m1_6 k).symm.trans (m2_6 k).symm)), RLf_keep (fun k => (y2_7_0 k).trans (y1_7_0 k)) (fun k => (y2_7_1 k).trans (y1_7_1 k)) (fun k => (y2_7_2 k).trans (y1_7_2 k)) (fun k => (y2_7_3 k).trans (y1_7_3 k)) (y2_7_4.trans y1_7_4) hv.2.2.2.2.2.2.2⟩⟩)
set_option maxRecDepth 100000 in
theorem case_30 {Ln : Nat} {xs : Nat → Int32} {mc ms : Nat} {w : mW} {i : Int32} (hi0 : 0 ≤ i.toInt) (hi1 : i.toInt + 6 ≤ Ln) (hL : Ln ≤ 3072) (hV : IV w) (K : ∀ w', IV w' → XW 371 mr_371 (some (Ln, xs)) 91 mc ms Qone (2217, [(3, .int i), (2, .ref 94), (1, .ref 0), (0, .retAddr 0)], [], w')) : XW 371 mr_371 (some (Ln, xs)) 91 (mc + 1) (ms + 240) Qone (1346, [(3, .int i), (2, .ref 94), (1, .ref 0), (0, .retAddr 0)], [], w) := by
  obtain ⟨hf, ⟨sh, R, hw⟩, hv⟩ := hV
  refine XW.fam (S' := (1347, [(3, .int i), (2, .ref 94), (1, .ref 0), (0, .retAddr 0)], [.ref 0], w)) (M := mr_371) rfl (show mcode 371 1346 = some (1346, .aload_n 1, 1, 0, 0, 0, _) from rfl) (Or.inl ⟨.ref 0, rfl, rfl⟩) ?_
  refine lw_ld (pc := 1347) (n := 1) rfl rfl rfl rfl rfl (by decide) hi0 hi1 hL ?_
  refine lw_ld (pc := 1352) (n := 2) rfl rfl rfl rfl rfl (by decide) hi0 hi1 hL ?_
  refine XW.call (d' := 47) (mc' := 0) (ms' := 0) (av := [.ref 0, .int (xs (i + Int32.ofInt 1).toNatClampNeg), .int (xs (i + Int32.ofInt 2).toNatClampNeg)]) (rest := []) (M := mr_371) (Ma := mr_154) rfl (show mcode 371 1357 = some (1357, .invokevirtual 138, 3, 154, 0, 0, _) from rfl) rfl (by decide) (by decide) ⟨rfl, 0, _, rfl, (iv_cell hw).1⟩ rfl rfl (show _ ≤ 8 by decide) (kk_119 [.ref 0, .int (xs (i + Int32.ofInt 1).toNatClampNeg), .int (xs (i + Int32.ofInt 2).toNatClampNeg)] w hw ⟨rfl, any32 _, any32 _, trivial⟩ (fun q hq => by cases hq) hf) (by decide) (by omega) (by omega) (fun r1 w1 hQ1 => ?_)
  obtain ⟨hf1, hw1, hI1, ⟨x1, rfl, -, -⟩, -⟩ := hQ1
  have c1_0 : w1.2.1 1 1 = w.2.1 1 1 := hI1 1 1 rfl
  have m1_0 : w1.2.1 94 2 = w.2.1 94 2 := hI1 94 2 rfl
  have c1_1 : w1.2.1 1 0 = w.2.1 1 0 := hI1 1 0 rfl
  have m1_1 : w1.2.1 94 1 = w.2.1 94 1 := hI1 94 1 rfl
  have c1_2 : w1.2.1 41 0 = w.2.1 41 0 := hI1 41 0 rfl
  have m1_2 : w1.2.1 94 34 = w.2.1 94 34 := hI1 94 34 rfl
  have c1_3 : ∀ k, w1.2.1 42 k = w.2.1 42 k := fun k => hI1 42 k rfl
  have m1_3 : ∀ k, w1.2.1 122 k = w.2.1 122 k := fun k => hI1 122 k rfl
  have c1_4 : w1.2.1 47 3 = w.2.1 47 3 := hI1 47 3 rfl
  have m1_4 : w1.2.1 94 35 = w.2.1 94 35 := hI1 94 35 rfl
  have c1_5 : ∀ k, w1.2.1 48 k = w.2.1 48 k := fun k => hI1 48 k rfl
  have m1_5 : ∀ k, w1.2.1 123 k = w.2.1 123 k := fun k => hI1 123 k rfl
  have c1_6 : ∀ k, w1.2.1 49 k = w.2.1 49 k := fun k => hI1 49 k rfl
  have m1_6 : ∀ k, w1.2.1 124 k = w.2.1 124 k := fun k => hI1 124 k rfl
  have y1_7_0 : ∀ k, w1.2.1 5 k = w.2.1 5 k := fun k => hI1 5 k rfl
  have y1_7_1 : ∀ k, w1.2.1 98 k = w.2.1 98 k := fun k => hI1 98 k rfl
  have y1_7_2 : ∀ k, w1.2.1 8 k = w.2.1 8 k := fun k => hI1 8 k rfl
  have y1_7_3 : ∀ k, w1.2.1 102 k = w.2.1 102 k := fun k => hI1 102 k rfl
  have y1_7_4 : w1.2.1 1 1 = w.2.1 1 1 := hI1 1 1 rfl
  refine XW.fam (S' := (1361, [(3, .int i), (2, .ref 94), (1, .ref 0), (0, .retAddr 0)], [], w1)) (M := mr_371) rfl (show mcode 371 1360 = some (1360, .pop, 1, 0, 0, 0, _) from rfl) (Or.inr (Or.inr (Or.inr (Or.inr (Or.inr (Or.inl ⟨_, rfl, rfl⟩)))))) ?_
  refine XW.fam (S' := (1362, [(3, .int i), (2, .ref 94), (1, .ref 0), (0, .retAddr 0)], [.ref 94], w1)) (M := mr_371) rfl (show mcode 371 1361 = some (1361, .aload_n 2, 1, 0, 0, 0, _) from rfl) (Or.inl ⟨.ref 94, rfl, rfl⟩) ?_
  refine lw_ld (pc := 1362) (n := 1) rfl rfl rfl rfl rfl (by decide) hi0 hi1 hL ?_
  refine lw_ld (pc := 1367) (n := 2) rfl rfl rfl rfl rfl (by decide) hi0 hi1 hL ?_
  refine XW.call (d' := 47) (mc' := 0) (ms' := 0) (av := [.ref 94, .int (xs (i + Int32.ofInt 1).toNatClampNeg), .int (xs (i + Int32.ofInt 2).toNatClampNeg)]) (rest := []) (M := mr_371) (Ma := mr_318) rfl (show mcode 371 1372 = some (1372, .invokevirtual 141, 3, 318, 0, 0, _) from rfl) rfl (by decide) (by decide) ⟨rfl, 94, _, rfl, (iv_cell hw1).2⟩ rfl rfl (show _ ≤ 8 by decide) (kk_328 [.ref 94, .int (xs (i + Int32.ofInt 1).toNatClampNeg), .int (xs (i + Int32.ofInt 2).toNatClampNeg)] w1 hw1 ⟨rfl, any32 _, any32 _, trivial⟩ (fun q hq => by cases hq) hf1) (by decide) (by omega) (by omega) (fun r2 w2 hQ2 => ?_)
  obtain ⟨hf2, hw2, hI2, ⟨x2, rfl, -, -⟩, -⟩ := hQ2
  have c2_0 : w2.2.1 1 1 = w1.2.1 1 1 := hI2 1 1 rfl
  have m2_0 : w2.2.1 94 2 = w1.2.1 94 2 := hI2 94 2 rfl
  have c2_1 : w2.2.1 1 0 = w1.2.1 1 0 := hI2 1 0 rfl
  have m2_1 : w2.2.1 94 1 = w1.2.1 94 1 := hI2 94 1 rfl
  have c2_2 : w2.2.1 41 0 = w1.2.1 41 0 := hI2 41 0 rfl
  have m2_2 : w2.2.1 94 34 = w1.2.1 94 34 := hI2 94 34 rfl
  have c2_3 : ∀ k, w2.2.1 42 k = w1.2.1 42 k := fun k => hI2 42 k rfl
  have m2_3 : ∀ k, w2.2.1 122 k = w1.2.1 122 k := fun k => hI2 122 k rfl
  have c2_4 : w2.2.1 47 3 = w1.2.1 47 3 := hI2 47 3 rfl
  have m2_4 : w2.2.1 94 35 = w1.2.1 94 35 := hI2 94 35 rfl
  have c2_5 : ∀ k, w2.2.1 48 k = w1.2.1 48 k := fun k => hI2 48 k rfl
  have m2_5 : ∀ k, w2.2.1 123 k = w1.2.1 123 k := fun k => hI2 123 k rfl
  have c2_6 : ∀ k, w2.2.1 49 k = w1.2.1 49 k := fun k => hI2 49 k rfl
  have m2_6 : ∀ k, w2.2.1 124 k = w1.2.1 124 k := fun k => hI2 124 k rfl
  have y2_7_0 : ∀ k, w2.2.1 5 k = w1.2.1 5 k := fun k => hI2 5 k rfl
  have y2_7_1 : ∀ k, w2.2.1 98 k = w1.2.1 98 k := fun k => hI2 98 k rfl
  have y2_7_2 : ∀ k, w2.2.1 8 k = w1.2.1 8 k := fun k => hI2 8 k rfl
  have y2_7_3 : ∀ k, w2.2.1 102 k = w1.2.1 102 k := fun k => hI2 102 k rfl
  have y2_7_4 : w2.2.1 1 1 = w1.2.1 1 1 := hI2 1 1 rfl
  refine XW.fam (S' := (1376, [(3, .int i), (2, .ref 94), (1, .ref 0), (0, .retAddr 0)], [], w2)) (M := mr_371) rfl (show mcode 371 1375 = some (1375, .pop, 1, 0, 0, 0, _) from rfl) (Or.inr (Or.inr (Or.inr (Or.inr (Or.inr (Or.inl ⟨_, rfl, rfl⟩)))))) ?_
  refine XW.fam (S' := (2217, [(3, .int i), (2, .ref 94), (1, .ref 0), (0, .retAddr 0)], [], w2)) (M := mr_371) rfl (show mcode 371 1376 = some (1376, .goto 841, 3, 2217, 0, 0, _) from rfl) (Or.inr (Or.inl ⟨2217, [], rfl, rfl⟩)) ?_
  exact XW.wid (mc := mc) (ms := ms) (by omega) (by omega) (K w2 ⟨hf2, ⟨_, _, hw2⟩, ⟨(c2_0.trans c1_0).trans (hv.1.trans (m1_0.symm.trans m2_0.symm)), (c2_1.trans c1_1).trans (hv.2.1.trans (m1_1.symm.trans m2_1.symm)), (c2_2.trans c1_2).trans (hv.2.2.1.trans (m1_2.symm.trans m2_2.symm)), fun k => ((c2_3 k).trans (c1_3 k)).trans ((hv.2.2.2.1 k).trans ((m1_3 k).symm.trans (m2_3 k).symm)), (c2_4.trans c1_4).trans (hv.2.2.2.2.1.trans (m1_4.symm.trans m2_4.symm)), fun k => ((c2_5 k).trans (c1_5 k)).trans ((hv.2.2.2.2.2.1 k).trans ((m1_5 k).symm.trans (m2_5 k).symm)), fun k => ((c2_6 k).trans (c1_6 k)).trans ((hv.2.2.2.2.2.2.1 k).trans ((m1_6 k).symm.trans (m2_6 k).symm)), RLf_keep (fun k => (y2_7_0 k).trans (y1_7_0 k)) (fun k => (y2_7_1 k).trans (y1_7_1 k)) (fun k => (y2_7_2 k).trans (y1_7_2 k)) (fun k => (y2_7_3 k).trans (y1_7_3 k)) (y2_7_4.trans y1_7_4) hv.2.2.2.2.2.2.2⟩⟩)
set_option maxRecDepth 100000 in
theorem case_31 {Ln : Nat} {xs : Nat → Int32} {mc ms : Nat} {w : mW} {i : Int32} (hi0 : 0 ≤ i.toInt) (hi1 : i.toInt + 6 ≤ Ln) (hL : Ln ≤ 3072) (hV : IV w) (K : ∀ w', IV w' → XW 371 mr_371 (some (Ln, xs)) 91 mc ms Qone (2217, [(3, .int i), (2, .ref 94), (1, .ref 0), (0, .retAddr 0)], [], w')) : XW 371 mr_371 (some (Ln, xs)) 91 (mc + 1) (ms + 240) Qone (1379, [(3, .int i), (2, .ref 94), (1, .ref 0), (0, .retAddr 0)], [], w) := by
  obtain ⟨hf, ⟨sh, R, hw⟩, hv⟩ := hV
  refine XW.fam (S' := (1380, [(3, .int i), (2, .ref 94), (1, .ref 0), (0, .retAddr 0)], [.ref 0], w)) (M := mr_371) rfl (show mcode 371 1379 = some (1379, .aload_n 1, 1, 0, 0, 0, _) from rfl) (Or.inl ⟨.ref 0, rfl, rfl⟩) ?_
  refine lw_ld (pc := 1380) (n := 1) rfl rfl rfl rfl rfl (by decide) hi0 hi1 hL ?_
  refine XW.call (d' := 47) (mc' := 0) (ms' := 0) (av := [.ref 0, .int (xs (i + Int32.ofInt 1).toNatClampNeg)]) (rest := []) (M := mr_371) (Ma := mr_157) rfl (show mcode 371 1385 = some (1385, .invokevirtual 142, 3, 157, 0, 0, _) from rfl) rfl (by decide) (by decide) ⟨rfl, 0, _, rfl, (iv_cell hw).1⟩ rfl rfl (show _ ≤ 8 by decide) (kk_121 [.ref 0, .int (xs (i + Int32.ofInt 1).toNatClampNeg)] w hw ⟨rfl, any32 _, trivial⟩ (fun q hq => by cases hq) hf) (by decide) (by omega) (by omega) (fun r1 w1 hQ1 => ?_)
  obtain ⟨hf1, hw1, hI1, ⟨x1, rfl, -, -⟩, -⟩ := hQ1
  have c1_0 : w1.2.1 1 1 = w.2.1 1 1 := hI1 1 1 rfl
  have m1_0 : w1.2.1 94 2 = w.2.1 94 2 := hI1 94 2 rfl
  have c1_1 : w1.2.1 1 0 = w.2.1 1 0 := hI1 1 0 rfl
  have m1_1 : w1.2.1 94 1 = w.2.1 94 1 := hI1 94 1 rfl
  have c1_2 : w1.2.1 41 0 = w.2.1 41 0 := hI1 41 0 rfl
  have m1_2 : w1.2.1 94 34 = w.2.1 94 34 := hI1 94 34 rfl
  have c1_3 : ∀ k, w1.2.1 42 k = w.2.1 42 k := fun k => hI1 42 k rfl
  have m1_3 : ∀ k, w1.2.1 122 k = w.2.1 122 k := fun k => hI1 122 k rfl
  have c1_4 : w1.2.1 47 3 = w.2.1 47 3 := hI1 47 3 rfl
  have m1_4 : w1.2.1 94 35 = w.2.1 94 35 := hI1 94 35 rfl
  have c1_5 : ∀ k, w1.2.1 48 k = w.2.1 48 k := fun k => hI1 48 k rfl
  have m1_5 : ∀ k, w1.2.1 123 k = w.2.1 123 k := fun k => hI1 123 k rfl
  have c1_6 : ∀ k, w1.2.1 49 k = w.2.1 49 k := fun k => hI1 49 k rfl
  have m1_6 : ∀ k, w1.2.1 124 k = w.2.1 124 k := fun k => hI1 124 k rfl
  have y1_7_0 : ∀ k, w1.2.1 5 k = w.2.1 5 k := fun k => hI1 5 k rfl
  have y1_7_1 : ∀ k, w1.2.1 98 k = w.2.1 98 k := fun k => hI1 98 k rfl
  have y1_7_2 : ∀ k, w1.2.1 8 k = w.2.1 8 k := fun k => hI1 8 k rfl
  have y1_7_3 : ∀ k, w1.2.1 102 k = w.2.1 102 k := fun k => hI1 102 k rfl
  have y1_7_4 : w1.2.1 1 1 = w.2.1 1 1 := hI1 1 1 rfl
  refine XW.fam (S' := (1389, [(3, .int i), (2, .ref 94), (1, .ref 0), (0, .retAddr 0)], [], w1)) (M := mr_371) rfl (show mcode 371 1388 = some (1388, .pop, 1, 0, 0, 0, _) from rfl) (Or.inr (Or.inr (Or.inr (Or.inr (Or.inr (Or.inl ⟨_, rfl, rfl⟩)))))) ?_
  refine XW.fam (S' := (1390, [(3, .int i), (2, .ref 94), (1, .ref 0), (0, .retAddr 0)], [.ref 94], w1)) (M := mr_371) rfl (show mcode 371 1389 = some (1389, .aload_n 2, 1, 0, 0, 0, _) from rfl) (Or.inl ⟨.ref 94, rfl, rfl⟩) ?_
  refine lw_ld (pc := 1390) (n := 1) rfl rfl rfl rfl rfl (by decide) hi0 hi1 hL ?_
  refine XW.call (d' := 48) (mc' := 0) (ms' := 0) (av := [.ref 94, .int (xs (i + Int32.ofInt 1).toNatClampNeg)]) (rest := []) (M := mr_371) (Ma := mr_320) rfl (show mcode 371 1395 = some (1395, .invokevirtual 145, 3, 320, 0, 0, _) from rfl) rfl (by decide) (by decide) ⟨rfl, 94, _, rfl, (iv_cell hw1).2⟩ rfl rfl (show _ ≤ 8 by decide) (kk_329 [.ref 94, .int (xs (i + Int32.ofInt 1).toNatClampNeg)] w1 hw1 ⟨rfl, any32 _, trivial⟩ (fun q hq => by cases hq) hf1) (by decide) (by omega) (by omega) (fun r2 w2 hQ2 => ?_)
  obtain ⟨hf2, hw2, hI2, ⟨x2, rfl, -, -⟩, -⟩ := hQ2
  have c2_0 : w2.2.1 1 1 = w1.2.1 1 1 := hI2 1 1 rfl
  have m2_0 : w2.2.1 94 2 = w1.2.1 94 2 := hI2 94 2 rfl
  have c2_1 : w2.2.1 1 0 = w1.2.1 1 0 := hI2 1 0 rfl
  have m2_1 : w2.2.1 94 1 = w1.2.1 94 1 := hI2 94 1 rfl
  have c2_2 : w2.2.1 41 0 = w1.2.1 41 0 := hI2 41 0 rfl
  have m2_2 : w2.2.1 94 34 = w1.2.1 94 34 := hI2 94 34 rfl
  have c2_3 : ∀ k, w2.2.1 42 k = w1.2.1 42 k := fun k => hI2 42 k rfl
  have m2_3 : ∀ k, w2.2.1 122 k = w1.2.1 122 k := fun k => hI2 122 k rfl
  have c2_4 : w2.2.1 47 3 = w1.2.1 47 3 := hI2 47 3 rfl
  have m2_4 : w2.2.1 94 35 = w1.2.1 94 35 := hI2 94 35 rfl
  have c2_5 : ∀ k, w2.2.1 48 k = w1.2.1 48 k := fun k => hI2 48 k rfl
  have m2_5 : ∀ k, w2.2.1 123 k = w1.2.1 123 k := fun k => hI2 123 k rfl
  have c2_6 : ∀ k, w2.2.1 49 k = w1.2.1 49 k := fun k => hI2 49 k rfl
  have m2_6 : ∀ k, w2.2.1 124 k = w1.2.1 124 k := fun k => hI2 124 k rfl
  have y2_7_0 : ∀ k, w2.2.1 5 k = w1.2.1 5 k := fun k => hI2 5 k rfl
  have y2_7_1 : ∀ k, w2.2.1 98 k = w1.2.1 98 k := fun k => hI2 98 k rfl
  have y2_7_2 : ∀ k, w2.2.1 8 k = w1.2.1 8 k := fun k => hI2 8 k rfl
  have y2_7_3 : ∀ k, w2.2.1 102 k = w1.2.1 102 k := fun k => hI2 102 k rfl
  have y2_7_4 : w2.2.1 1 1 = w1.2.1 1 1 := hI2 1 1 rfl
  refine XW.fam (S' := (1399, [(3, .int i), (2, .ref 94), (1, .ref 0), (0, .retAddr 0)], [], w2)) (M := mr_371) rfl (show mcode 371 1398 = some (1398, .pop, 1, 0, 0, 0, _) from rfl) (Or.inr (Or.inr (Or.inr (Or.inr (Or.inr (Or.inl ⟨_, rfl, rfl⟩)))))) ?_
  refine XW.fam (S' := (2217, [(3, .int i), (2, .ref 94), (1, .ref 0), (0, .retAddr 0)], [], w2)) (M := mr_371) rfl (show mcode 371 1399 = some (1399, .goto 818, 3, 2217, 0, 0, _) from rfl) (Or.inr (Or.inl ⟨2217, [], rfl, rfl⟩)) ?_
  exact XW.wid (mc := mc) (ms := ms) (by omega) (by omega) (K w2 ⟨hf2, ⟨_, _, hw2⟩, ⟨(c2_0.trans c1_0).trans (hv.1.trans (m1_0.symm.trans m2_0.symm)), (c2_1.trans c1_1).trans (hv.2.1.trans (m1_1.symm.trans m2_1.symm)), (c2_2.trans c1_2).trans (hv.2.2.1.trans (m1_2.symm.trans m2_2.symm)), fun k => ((c2_3 k).trans (c1_3 k)).trans ((hv.2.2.2.1 k).trans ((m1_3 k).symm.trans (m2_3 k).symm)), (c2_4.trans c1_4).trans (hv.2.2.2.2.1.trans (m1_4.symm.trans m2_4.symm)), fun k => ((c2_5 k).trans (c1_5 k)).trans ((hv.2.2.2.2.2.1 k).trans ((m1_5 k).symm.trans (m2_5 k).symm)), fun k => ((c2_6 k).trans (c1_6 k)).trans ((hv.2.2.2.2.2.2.1 k).trans ((m1_6 k).symm.trans (m2_6 k).symm)), RLf_keep (fun k => (y2_7_0 k).trans (y1_7_0 k)) (fun k => (y2_7_1 k).trans (y1_7_1 k)) (fun k => (y2_7_2 k).trans (y1_7_2 k)) (fun k => (y2_7_3 k).trans (y1_7_3 k)) (y2_7_4.trans y1_7_4) hv.2.2.2.2.2.2.2⟩⟩)
set_option maxRecDepth 100000 in
theorem case_32 {Ln : Nat} {xs : Nat → Int32} {mc ms : Nat} {w : mW} {i : Int32} (hi0 : 0 ≤ i.toInt) (hi1 : i.toInt + 6 ≤ Ln) (hL : Ln ≤ 3072) (hV : IV w) (K : ∀ w', IV w' → XW 371 mr_371 (some (Ln, xs)) 91 mc ms Qone (2217, [(3, .int i), (2, .ref 94), (1, .ref 0), (0, .retAddr 0)], [], w')) : XW 371 mr_371 (some (Ln, xs)) 91 (mc + 1) (ms + 240) Qone (1402, [(3, .int i), (2, .ref 94), (1, .ref 0), (0, .retAddr 0)], [], w) := by
  obtain ⟨hf, ⟨sh, R, hw⟩, hv⟩ := hV
  refine XW.fam (S' := (1403, [(3, .int i), (2, .ref 94), (1, .ref 0), (0, .retAddr 0)], [.ref 0], w)) (M := mr_371) rfl (show mcode 371 1402 = some (1402, .aload_n 1, 1, 0, 0, 0, _) from rfl) (Or.inl ⟨.ref 0, rfl, rfl⟩) ?_
  refine lw_ld (pc := 1403) (n := 1) rfl rfl rfl rfl rfl (by decide) hi0 hi1 hL ?_
  refine lw_ld (pc := 1408) (n := 2) rfl rfl rfl rfl rfl (by decide) hi0 hi1 hL ?_
  refine XW.call (d' := 41) (mc' := 0) (ms' := 0) (av := [.ref 0, .int (xs (i + Int32.ofInt 1).toNatClampNeg), .int (xs (i + Int32.ofInt 2).toNatClampNeg)]) (rest := []) (M := mr_371) (Ma := mr_159) rfl (show mcode 371 1413 = some (1413, .invokevirtual 146, 3, 159, 0, 0, _) from rfl) rfl (by decide) (by decide) ⟨rfl, 0, _, rfl, (iv_cell hw).1⟩ rfl rfl (show _ ≤ 8 by decide) (kk_122 [.ref 0, .int (xs (i + Int32.ofInt 1).toNatClampNeg), .int (xs (i + Int32.ofInt 2).toNatClampNeg)] w hw ⟨rfl, any32 _, any32 _, trivial⟩ (fun q hq => by cases hq) hf) (by decide) (by omega) (by omega) (fun r1 w1 hQ1 => ?_)
  obtain ⟨hf1, hw1, hI1, ⟨x1, rfl, -, -⟩, -⟩ := hQ1
  have c1_0 : w1.2.1 1 1 = w.2.1 1 1 := hI1 1 1 rfl
  have m1_0 : w1.2.1 94 2 = w.2.1 94 2 := hI1 94 2 rfl
  have c1_1 : w1.2.1 1 0 = w.2.1 1 0 := hI1 1 0 rfl
  have m1_1 : w1.2.1 94 1 = w.2.1 94 1 := hI1 94 1 rfl
  have c1_2 : w1.2.1 41 0 = w.2.1 41 0 := hI1 41 0 rfl
  have m1_2 : w1.2.1 94 34 = w.2.1 94 34 := hI1 94 34 rfl
  have c1_3 : ∀ k, w1.2.1 42 k = w.2.1 42 k := fun k => hI1 42 k rfl
  have m1_3 : ∀ k, w1.2.1 122 k = w.2.1 122 k := fun k => hI1 122 k rfl
  have c1_4 : w1.2.1 47 3 = w.2.1 47 3 := hI1 47 3 rfl
  have m1_4 : w1.2.1 94 35 = w.2.1 94 35 := hI1 94 35 rfl
  have c1_5 : ∀ k, w1.2.1 48 k = w.2.1 48 k := fun k => hI1 48 k rfl
  have m1_5 : ∀ k, w1.2.1 123 k = w.2.1 123 k := fun k => hI1 123 k rfl
  have c1_6 : ∀ k, w1.2.1 49 k = w.2.1 49 k := fun k => hI1 49 k rfl
  have m1_6 : ∀ k, w1.2.1 124 k = w.2.1 124 k := fun k => hI1 124 k rfl
  have y1_7_0 : ∀ k, w1.2.1 5 k = w.2.1 5 k := fun k => hI1 5 k rfl
  have y1_7_1 : ∀ k, w1.2.1 98 k = w.2.1 98 k := fun k => hI1 98 k rfl
  have y1_7_2 : ∀ k, w1.2.1 8 k = w.2.1 8 k := fun k => hI1 8 k rfl
  have y1_7_3 : ∀ k, w1.2.1 102 k = w.2.1 102 k := fun k => hI1 102 k rfl
  have y1_7_4 : w1.2.1 1 1 = w.2.1 1 1 := hI1 1 1 rfl
  refine XW.fam (S' := (1417, [(3, .int i), (2, .ref 94), (1, .ref 0), (0, .retAddr 0)], [], w1)) (M := mr_371) rfl (show mcode 371 1416 = some (1416, .pop, 1, 0, 0, 0, _) from rfl) (Or.inr (Or.inr (Or.inr (Or.inr (Or.inr (Or.inl ⟨_, rfl, rfl⟩)))))) ?_
  refine XW.fam (S' := (1418, [(3, .int i), (2, .ref 94), (1, .ref 0), (0, .retAddr 0)], [.ref 94], w1)) (M := mr_371) rfl (show mcode 371 1417 = some (1417, .aload_n 2, 1, 0, 0, 0, _) from rfl) (Or.inl ⟨.ref 94, rfl, rfl⟩) ?_
  refine lw_ld (pc := 1418) (n := 1) rfl rfl rfl rfl rfl (by decide) hi0 hi1 hL ?_
  refine lw_ld (pc := 1423) (n := 2) rfl rfl rfl rfl rfl (by decide) hi0 hi1 hL ?_
  refine XW.call (d' := 42) (mc' := 0) (ms' := 0) (av := [.ref 94, .int (xs (i + Int32.ofInt 1).toNatClampNeg), .int (xs (i + Int32.ofInt 2).toNatClampNeg)]) (rest := []) (M := mr_371) (Ma := mr_321) rfl (show mcode 371 1428 = some (1428, .invokevirtual 149, 3, 321, 0, 0, _) from rfl) rfl (by decide) (by decide) ⟨rfl, 94, _, rfl, (iv_cell hw1).2⟩ rfl rfl (show _ ≤ 8 by decide) (kk_330 [.ref 94, .int (xs (i + Int32.ofInt 1).toNatClampNeg), .int (xs (i + Int32.ofInt 2).toNatClampNeg)] w1 hw1 ⟨rfl, any32 _, any32 _, trivial⟩ (fun q hq => by cases hq) hf1) (by decide) (by omega) (by omega) (fun r2 w2 hQ2 => ?_)
  obtain ⟨hf2, hw2, hI2, ⟨x2, rfl, -, -⟩, -⟩ := hQ2
  have c2_0 : w2.2.1 1 1 = w1.2.1 1 1 := hI2 1 1 rfl
  have m2_0 : w2.2.1 94 2 = w1.2.1 94 2 := hI2 94 2 rfl
  have c2_1 : w2.2.1 1 0 = w1.2.1 1 0 := hI2 1 0 rfl
  have m2_1 : w2.2.1 94 1 = w1.2.1 94 1 := hI2 94 1 rfl
  have c2_2 : w2.2.1 41 0 = w1.2.1 41 0 := hI2 41 0 rfl
  have m2_2 : w2.2.1 94 34 = w1.2.1 94 34 := hI2 94 34 rfl
  have c2_3 : ∀ k, w2.2.1 42 k = w1.2.1 42 k := fun k => hI2 42 k rfl
  have m2_3 : ∀ k, w2.2.1 122 k = w1.2.1 122 k := fun k => hI2 122 k rfl
  have c2_4 : w2.2.1 47 3 = w1.2.1 47 3 := hI2 47 3 rfl
  have m2_4 : w2.2.1 94 35 = w1.2.1 94 35 := hI2 94 35 rfl
  have c2_5 : ∀ k, w2.2.1 48 k = w1.2.1 48 k := fun k => hI2 48 k rfl
  have m2_5 : ∀ k, w2.2.1 123 k = w1.2.1 123 k := fun k => hI2 123 k rfl
  have c2_6 : ∀ k, w2.2.1 49 k = w1.2.1 49 k := fun k => hI2 49 k rfl
  have m2_6 : ∀ k, w2.2.1 124 k = w1.2.1 124 k := fun k => hI2 124 k rfl
  have y2_7_0 : ∀ k, w2.2.1 5 k = w1.2.1 5 k := fun k => hI2 5 k rfl
  have y2_7_1 : ∀ k, w2.2.1 98 k = w1.2.1 98 k := fun k => hI2 98 k rfl
  have y2_7_2 : ∀ k, w2.2.1 8 k = w1.2.1 8 k := fun k => hI2 8 k rfl
  have y2_7_3 : ∀ k, w2.2.1 102 k = w1.2.1 102 k := fun k => hI2 102 k rfl
  have y2_7_4 : w2.2.1 1 1 = w1.2.1 1 1 := hI2 1 1 rfl
  refine XW.fam (S' := (1432, [(3, .int i), (2, .ref 94), (1, .ref 0), (0, .retAddr 0)], [], w2)) (M := mr_371) rfl (show mcode 371 1431 = some (1431, .pop, 1, 0, 0, 0, _) from rfl) (Or.inr (Or.inr (Or.inr (Or.inr (Or.inr (Or.inl ⟨_, rfl, rfl⟩)))))) ?_
  refine XW.fam (S' := (2217, [(3, .int i), (2, .ref 94), (1, .ref 0), (0, .retAddr 0)], [], w2)) (M := mr_371) rfl (show mcode 371 1432 = some (1432, .goto 785, 3, 2217, 0, 0, _) from rfl) (Or.inr (Or.inl ⟨2217, [], rfl, rfl⟩)) ?_
  exact XW.wid (mc := mc) (ms := ms) (by omega) (by omega) (K w2 ⟨hf2, ⟨_, _, hw2⟩, ⟨(c2_0.trans c1_0).trans (hv.1.trans (m1_0.symm.trans m2_0.symm)), (c2_1.trans c1_1).trans (hv.2.1.trans (m1_1.symm.trans m2_1.symm)), (c2_2.trans c1_2).trans (hv.2.2.1.trans (m1_2.symm.trans m2_2.symm)), fun k => ((c2_3 k).trans (c1_3 k)).trans ((hv.2.2.2.1 k).trans ((m1_3 k).symm.trans (m2_3 k).symm)), (c2_4.trans c1_4).trans (hv.2.2.2.2.1.trans (m1_4.symm.trans m2_4.symm)), fun k => ((c2_5 k).trans (c1_5 k)).trans ((hv.2.2.2.2.2.1 k).trans ((m1_5 k).symm.trans (m2_5 k).symm)), fun k => ((c2_6 k).trans (c1_6 k)).trans ((hv.2.2.2.2.2.2.1 k).trans ((m1_6 k).symm.trans (m2_6 k).symm)), RLf_keep (fun k => (y2_7_0 k).trans (y1_7_0 k)) (fun k => (y2_7_1 k).trans (y1_7_1 k)) (fun k => (y2_7_2 k).trans (y1_7_2 k)) (fun k => (y2_7_3 k).trans (y1_7_3 k)) (y2_7_4.trans y1_7_4) hv.2.2.2.2.2.2.2⟩⟩)
set_option maxRecDepth 100000 in
theorem case_33 {Ln : Nat} {xs : Nat → Int32} {mc ms : Nat} {w : mW} {i : Int32} (hi0 : 0 ≤ i.toInt) (hi1 : i.toInt + 6 ≤ Ln) (hL : Ln ≤ 3072) (hV : IV w) (K : ∀ w', IV w' → XW 371 mr_371 (some (Ln, xs)) 91 mc ms Qone (2217, [(3, .int i), (2, .ref 94), (1, .ref 0), (0, .retAddr 0)], [], w')) : XW 371 mr_371 (some (Ln, xs)) 91 (mc + 1) (ms + 240) Qone (1435, [(3, .int i), (2, .ref 94), (1, .ref 0), (0, .retAddr 0)], [], w) := by
  obtain ⟨hf, ⟨sh, R, hw⟩, hv⟩ := hV
  refine XW.fam (S' := (1436, [(3, .int i), (2, .ref 94), (1, .ref 0), (0, .retAddr 0)], [.ref 0], w)) (M := mr_371) rfl (show mcode 371 1435 = some (1435, .aload_n 1, 1, 0, 0, 0, _) from rfl) (Or.inl ⟨.ref 0, rfl, rfl⟩) ?_
  refine lw_ld (pc := 1436) (n := 1) rfl rfl rfl rfl rfl (by decide) hi0 hi1 hL ?_
  refine lw_ld (pc := 1441) (n := 2) rfl rfl rfl rfl rfl (by decide) hi0 hi1 hL ?_
  refine XW.call (d' := 41) (mc' := 0) (ms' := 0) (av := [.ref 0, .int (xs (i + Int32.ofInt 1).toNatClampNeg), .int (xs (i + Int32.ofInt 2).toNatClampNeg)]) (rest := []) (M := mr_371) (Ma := mr_161) rfl (show mcode 371 1446 = some (1446, .invokevirtual 150, 3, 161, 0, 0, _) from rfl) rfl (by decide) (by decide) ⟨rfl, 0, _, rfl, (iv_cell hw).1⟩ rfl rfl (show _ ≤ 8 by decide) (kk_123 [.ref 0, .int (xs (i + Int32.ofInt 1).toNatClampNeg), .int (xs (i + Int32.ofInt 2).toNatClampNeg)] w hw ⟨rfl, any32 _, any32 _, trivial⟩ (fun q hq => by cases hq) hf) (by decide) (by omega) (by omega) (fun r1 w1 hQ1 => ?_)
  obtain ⟨hf1, hw1, hI1, ⟨x1, rfl, -, -⟩, -⟩ := hQ1
  have c1_0 : w1.2.1 1 1 = w.2.1 1 1 := hI1 1 1 rfl
  have m1_0 : w1.2.1 94 2 = w.2.1 94 2 := hI1 94 2 rfl
  have c1_1 : w1.2.1 1 0 = w.2.1 1 0 := hI1 1 0 rfl
  have m1_1 : w1.2.1 94 1 = w.2.1 94 1 := hI1 94 1 rfl
  have c1_2 : w1.2.1 41 0 = w.2.1 41 0 := hI1 41 0 rfl
  have m1_2 : w1.2.1 94 34 = w.2.1 94 34 := hI1 94 34 rfl
  have c1_3 : ∀ k, w1.2.1 42 k = w.2.1 42 k := fun k => hI1 42 k rfl
  have m1_3 : ∀ k, w1.2.1 122 k = w.2.1 122 k := fun k => hI1 122 k rfl
  have c1_4 : w1.2.1 47 3 = w.2.1 47 3 := hI1 47 3 rfl
  have m1_4 : w1.2.1 94 35 = w.2.1 94 35 := hI1 94 35 rfl
  have c1_5 : ∀ k, w1.2.1 48 k = w.2.1 48 k := fun k => hI1 48 k rfl
  have m1_5 : ∀ k, w1.2.1 123 k = w.2.1 123 k := fun k => hI1 123 k rfl
  have c1_6 : ∀ k, w1.2.1 49 k = w.2.1 49 k := fun k => hI1 49 k rfl
  have m1_6 : ∀ k, w1.2.1 124 k = w.2.1 124 k := fun k => hI1 124 k rfl
  have y1_7_0 : ∀ k, w1.2.1 5 k = w.2.1 5 k := fun k => hI1 5 k rfl
  have y1_7_1 : ∀ k, w1.2.1 98 k = w.2.1 98 k := fun k => hI1 98 k rfl
  have y1_7_2 : ∀ k, w1.2.1 8 k = w.2.1 8 k := fun k => hI1 8 k rfl
  have y1_7_3 : ∀ k, w1.2.1 102 k = w.2.1 102 k := fun k => hI1 102 k rfl
  have y1_7_4 : w1.2.1 1 1 = w.2.1 1 1 := hI1 1 1 rfl
  refine XW.fam (S' := (1450, [(3, .int i), (2, .ref 94), (1, .ref 0), (0, .retAddr 0)], [], w1)) (M := mr_371) rfl (show mcode 371 1449 = some (1449, .pop, 1, 0, 0, 0, _) from rfl) (Or.inr (Or.inr (Or.inr (Or.inr (Or.inr (Or.inl ⟨_, rfl, rfl⟩)))))) ?_
  refine XW.fam (S' := (1451, [(3, .int i), (2, .ref 94), (1, .ref 0), (0, .retAddr 0)], [.ref 94], w1)) (M := mr_371) rfl (show mcode 371 1450 = some (1450, .aload_n 2, 1, 0, 0, 0, _) from rfl) (Or.inl ⟨.ref 94, rfl, rfl⟩) ?_
  refine lw_ld (pc := 1451) (n := 1) rfl rfl rfl rfl rfl (by decide) hi0 hi1 hL ?_
  refine lw_ld (pc := 1456) (n := 2) rfl rfl rfl rfl rfl (by decide) hi0 hi1 hL ?_
  refine XW.call (d' := 42) (mc' := 0) (ms' := 0) (av := [.ref 94, .int (xs (i + Int32.ofInt 1).toNatClampNeg), .int (xs (i + Int32.ofInt 2).toNatClampNeg)]) (rest := []) (M := mr_371) (Ma := mr_322) rfl (show mcode 371 1461 = some (1461, .invokevirtual 153, 3, 322, 0, 0, _) from rfl) rfl (by decide) (by decide) ⟨rfl, 94, _, rfl, (iv_cell hw1).2⟩ rfl rfl (show _ ≤ 8 by decide) (kk_332 [.ref 94, .int (xs (i + Int32.ofInt 1).toNatClampNeg), .int (xs (i + Int32.ofInt 2).toNatClampNeg)] w1 hw1 ⟨rfl, any32 _, any32 _, trivial⟩ (fun q hq => by cases hq) hf1) (by decide) (by omega) (by omega) (fun r2 w2 hQ2 => ?_)
  obtain ⟨hf2, hw2, hI2, ⟨x2, rfl, -, -⟩, -⟩ := hQ2
  have c2_0 : w2.2.1 1 1 = w1.2.1 1 1 := hI2 1 1 rfl
  have m2_0 : w2.2.1 94 2 = w1.2.1 94 2 := hI2 94 2 rfl
  have c2_1 : w2.2.1 1 0 = w1.2.1 1 0 := hI2 1 0 rfl
  have m2_1 : w2.2.1 94 1 = w1.2.1 94 1 := hI2 94 1 rfl
  have c2_2 : w2.2.1 41 0 = w1.2.1 41 0 := hI2 41 0 rfl
  have m2_2 : w2.2.1 94 34 = w1.2.1 94 34 := hI2 94 34 rfl
  have c2_3 : ∀ k, w2.2.1 42 k = w1.2.1 42 k := fun k => hI2 42 k rfl
  have m2_3 : ∀ k, w2.2.1 122 k = w1.2.1 122 k := fun k => hI2 122 k rfl
  have c2_4 : w2.2.1 47 3 = w1.2.1 47 3 := hI2 47 3 rfl
  have m2_4 : w2.2.1 94 35 = w1.2.1 94 35 := hI2 94 35 rfl
  have c2_5 : ∀ k, w2.2.1 48 k = w1.2.1 48 k := fun k => hI2 48 k rfl
  have m2_5 : ∀ k, w2.2.1 123 k = w1.2.1 123 k := fun k => hI2 123 k rfl
  have c2_6 : ∀ k, w2.2.1 49 k = w1.2.1 49 k := fun k => hI2 49 k rfl
  have m2_6 : ∀ k, w2.2.1 124 k = w1.2.1 124 k := fun k => hI2 124 k rfl
  have y2_7_0 : ∀ k, w2.2.1 5 k = w1.2.1 5 k := fun k => hI2 5 k rfl
  have y2_7_1 : ∀ k, w2.2.1 98 k = w1.2.1 98 k := fun k => hI2 98 k rfl
  have y2_7_2 : ∀ k, w2.2.1 8 k = w1.2.1 8 k := fun k => hI2 8 k rfl
  have y2_7_3 : ∀ k, w2.2.1 102 k = w1.2.1 102 k := fun k => hI2 102 k rfl
  have y2_7_4 : w2.2.1 1 1 = w1.2.1 1 1 := hI2 1 1 rfl
  refine XW.fam (S' := (1465, [(3, .int i), (2, .ref 94), (1, .ref 0), (0, .retAddr 0)], [], w2)) (M := mr_371) rfl (show mcode 371 1464 = some (1464, .pop, 1, 0, 0, 0, _) from rfl) (Or.inr (Or.inr (Or.inr (Or.inr (Or.inr (Or.inl ⟨_, rfl, rfl⟩)))))) ?_
  refine XW.fam (S' := (2217, [(3, .int i), (2, .ref 94), (1, .ref 0), (0, .retAddr 0)], [], w2)) (M := mr_371) rfl (show mcode 371 1465 = some (1465, .goto 752, 3, 2217, 0, 0, _) from rfl) (Or.inr (Or.inl ⟨2217, [], rfl, rfl⟩)) ?_
  exact XW.wid (mc := mc) (ms := ms) (by omega) (by omega) (K w2 ⟨hf2, ⟨_, _, hw2⟩, ⟨(c2_0.trans c1_0).trans (hv.1.trans (m1_0.symm.trans m2_0.symm)), (c2_1.trans c1_1).trans (hv.2.1.trans (m1_1.symm.trans m2_1.symm)), (c2_2.trans c1_2).trans (hv.2.2.1.trans (m1_2.symm.trans m2_2.symm)), fun k => ((c2_3 k).trans (c1_3 k)).trans ((hv.2.2.2.1 k).trans ((m1_3 k).symm.trans (m2_3 k).symm)), (c2_4.trans c1_4).trans (hv.2.2.2.2.1.trans (m1_4.symm.trans m2_4.symm)), fun k => ((c2_5 k).trans (c1_5 k)).trans ((hv.2.2.2.2.2.1 k).trans ((m1_5 k).symm.trans (m2_5 k).symm)), fun k => ((c2_6 k).trans (c1_6 k)).trans ((hv.2.2.2.2.2.2.1 k).trans ((m1_6 k).symm.trans (m2_6 k).symm)), RLf_keep (fun k => (y2_7_0 k).trans (y1_7_0 k)) (fun k => (y2_7_1 k).trans (y1_7_1 k)) (fun k => (y2_7_2 k).trans (y1_7_2 k)) (fun k => (y2_7_3 k).trans (y1_7_3 k)) (y2_7_4.trans y1_7_4) hv.2.2.2.2.2.2.2⟩⟩)
set_option maxRecDepth 100000 in
theorem case_34 {Ln : Nat} {xs : Nat → Int32} {mc ms : Nat} {w : mW} {i : Int32} (hi0 : 0 ≤ i.toInt) (hi1 : i.toInt + 6 ≤ Ln) (hL : Ln ≤ 3072) (hV : IV w) (K : ∀ w', IV w' → XW 371 mr_371 (some (Ln, xs)) 91 mc ms Qone (2217, [(3, .int i), (2, .ref 94), (1, .ref 0), (0, .retAddr 0)], [], w')) : XW 371 mr_371 (some (Ln, xs)) 91 (mc + 1) (ms + 240) Qone (1468, [(3, .int i), (2, .ref 94), (1, .ref 0), (0, .retAddr 0)], [], w) := by
  obtain ⟨hf, ⟨sh, R, hw⟩, hv⟩ := hV
  refine XW.fam (S' := (1469, [(3, .int i), (2, .ref 94), (1, .ref 0), (0, .retAddr 0)], [.ref 0], w)) (M := mr_371) rfl (show mcode 371 1468 = some (1468, .aload_n 1, 1, 0, 0, 0, _) from rfl) (Or.inl ⟨.ref 0, rfl, rfl⟩) ?_
  refine lw_ld (pc := 1469) (n := 1) rfl rfl rfl rfl rfl (by decide) hi0 hi1 hL ?_
  refine lw_ld (pc := 1474) (n := 2) rfl rfl rfl rfl rfl (by decide) hi0 hi1 hL ?_
  refine XW.call (d' := 41) (mc' := 0) (ms' := 0) (av := [.ref 0, .int (xs (i + Int32.ofInt 1).toNatClampNeg), .int (xs (i + Int32.ofInt 2).toNatClampNeg)]) (rest := []) (M := mr_371) (Ma := mr_163) rfl (show mcode 371 1479 = some (1479, .invokevirtual 154, 3, 163, 0, 0, _) from rfl) rfl (by decide) (by decide) ⟨rfl, 0, _, rfl, (iv_cell hw).1⟩ rfl rfl (show _ ≤ 8 by decide) (kk_124 [.ref 0, .int (xs (i + Int32.ofInt 1).toNatClampNeg), .int (xs (i + Int32.ofInt 2).toNatClampNeg)] w hw ⟨rfl, any32 _, any32 _, trivial⟩ (fun q hq => by cases hq) hf) (by decide) (by omega) (by omega) (fun r1 w1 hQ1 => ?_)
  obtain ⟨hf1, hw1, hI1, ⟨x1, rfl, -, -⟩, -⟩ := hQ1
  have c1_0 : w1.2.1 1 1 = w.2.1 1 1 := hI1 1 1 rfl
  have m1_0 : w1.2.1 94 2 = w.2.1 94 2 := hI1 94 2 rfl
  have c1_1 : w1.2.1 1 0 = w.2.1 1 0 := hI1 1 0 rfl
  have m1_1 : w1.2.1 94 1 = w.2.1 94 1 := hI1 94 1 rfl
  have c1_2 : w1.2.1 41 0 = w.2.1 41 0 := hI1 41 0 rfl
  have m1_2 : w1.2.1 94 34 = w.2.1 94 34 := hI1 94 34 rfl
  have c1_3 : ∀ k, w1.2.1 42 k = w.2.1 42 k := fun k => hI1 42 k rfl
  have m1_3 : ∀ k, w1.2.1 122 k = w.2.1 122 k := fun k => hI1 122 k rfl
  have c1_4 : w1.2.1 47 3 = w.2.1 47 3 := hI1 47 3 rfl
  have m1_4 : w1.2.1 94 35 = w.2.1 94 35 := hI1 94 35 rfl
  have c1_5 : ∀ k, w1.2.1 48 k = w.2.1 48 k := fun k => hI1 48 k rfl
  have m1_5 : ∀ k, w1.2.1 123 k = w.2.1 123 k := fun k => hI1 123 k rfl
  have c1_6 : ∀ k, w1.2.1 49 k = w.2.1 49 k := fun k => hI1 49 k rfl
  have m1_6 : ∀ k, w1.2.1 124 k = w.2.1 124 k := fun k => hI1 124 k rfl
  have y1_7_0 : ∀ k, w1.2.1 5 k = w.2.1 5 k := fun k => hI1 5 k rfl
  have y1_7_1 : ∀ k, w1.2.1 98 k = w.2.1 98 k := fun k => hI1 98 k rfl
  have y1_7_2 : ∀ k, w1.2.1 8 k = w.2.1 8 k := fun k => hI1 8 k rfl
  have y1_7_3 : ∀ k, w1.2.1 102 k = w.2.1 102 k := fun k => hI1 102 k rfl
  have y1_7_4 : w1.2.1 1 1 = w.2.1 1 1 := hI1 1 1 rfl
  refine XW.fam (S' := (1483, [(3, .int i), (2, .ref 94), (1, .ref 0), (0, .retAddr 0)], [], w1)) (M := mr_371) rfl (show mcode 371 1482 = some (1482, .pop, 1, 0, 0, 0, _) from rfl) (Or.inr (Or.inr (Or.inr (Or.inr (Or.inr (Or.inl ⟨_, rfl, rfl⟩)))))) ?_
  refine XW.fam (S' := (1484, [(3, .int i), (2, .ref 94), (1, .ref 0), (0, .retAddr 0)], [.ref 94], w1)) (M := mr_371) rfl (show mcode 371 1483 = some (1483, .aload_n 2, 1, 0, 0, 0, _) from rfl) (Or.inl ⟨.ref 94, rfl, rfl⟩) ?_
  refine lw_ld (pc := 1484) (n := 1) rfl rfl rfl rfl rfl (by decide) hi0 hi1 hL ?_
  refine lw_ld (pc := 1489) (n := 2) rfl rfl rfl rfl rfl (by decide) hi0 hi1 hL ?_
  refine XW.call (d' := 41) (mc' := 0) (ms' := 0) (av := [.ref 94, .int (xs (i + Int32.ofInt 1).toNatClampNeg), .int (xs (i + Int32.ofInt 2).toNatClampNeg)]) (rest := []) (M := mr_371) (Ma := mr_327) rfl (show mcode 371 1494 = some (1494, .invokevirtual 157, 3, 327, 0, 0, _) from rfl) rfl (by decide) (by decide) ⟨rfl, 94, _, rfl, (iv_cell hw1).2⟩ rfl rfl (show _ ≤ 8 by decide) (kk_336 [.ref 94, .int (xs (i + Int32.ofInt 1).toNatClampNeg), .int (xs (i + Int32.ofInt 2).toNatClampNeg)] w1 hw1 ⟨rfl, any32 _, any32 _, trivial⟩ (fun q hq => by cases hq) hf1) (by decide) (by omega) (by omega) (fun r2 w2 hQ2 => ?_)
  obtain ⟨hf2, hw2, hI2, ⟨x2, rfl, -, -⟩, -⟩ := hQ2
  have c2_0 : w2.2.1 1 1 = w1.2.1 1 1 := hI2 1 1 rfl
  have m2_0 : w2.2.1 94 2 = w1.2.1 94 2 := hI2 94 2 rfl
  have c2_1 : w2.2.1 1 0 = w1.2.1 1 0 := hI2 1 0 rfl
  have m2_1 : w2.2.1 94 1 = w1.2.1 94 1 := hI2 94 1 rfl
  have c2_2 : w2.2.1 41 0 = w1.2.1 41 0 := hI2 41 0 rfl
  have m2_2 : w2.2.1 94 34 = w1.2.1 94 34 := hI2 94 34 rfl
  have c2_3 : ∀ k, w2.2.1 42 k = w1.2.1 42 k := fun k => hI2 42 k rfl
  have m2_3 : ∀ k, w2.2.1 122 k = w1.2.1 122 k := fun k => hI2 122 k rfl
  have c2_4 : w2.2.1 47 3 = w1.2.1 47 3 := hI2 47 3 rfl
  have m2_4 : w2.2.1 94 35 = w1.2.1 94 35 := hI2 94 35 rfl
  have c2_5 : ∀ k, w2.2.1 48 k = w1.2.1 48 k := fun k => hI2 48 k rfl
  have m2_5 : ∀ k, w2.2.1 123 k = w1.2.1 123 k := fun k => hI2 123 k rfl
  have c2_6 : ∀ k, w2.2.1 49 k = w1.2.1 49 k := fun k => hI2 49 k rfl
  have m2_6 : ∀ k, w2.2.1 124 k = w1.2.1 124 k := fun k => hI2 124 k rfl
  have y2_7_0 : ∀ k, w2.2.1 5 k = w1.2.1 5 k := fun k => hI2 5 k rfl
  have y2_7_1 : ∀ k, w2.2.1 98 k = w1.2.1 98 k := fun k => hI2 98 k rfl
  have y2_7_2 : ∀ k, w2.2.1 8 k = w1.2.1 8 k := fun k => hI2 8 k rfl
  have y2_7_3 : ∀ k, w2.2.1 102 k = w1.2.1 102 k := fun k => hI2 102 k rfl
  have y2_7_4 : w2.2.1 1 1 = w1.2.1 1 1 := hI2 1 1 rfl
  refine XW.fam (S' := (1498, [(3, .int i), (2, .ref 94), (1, .ref 0), (0, .retAddr 0)], [], w2)) (M := mr_371) rfl (show mcode 371 1497 = some (1497, .pop, 1, 0, 0, 0, _) from rfl) (Or.inr (Or.inr (Or.inr (Or.inr (Or.inr (Or.inl ⟨_, rfl, rfl⟩)))))) ?_
  refine XW.fam (S' := (2217, [(3, .int i), (2, .ref 94), (1, .ref 0), (0, .retAddr 0)], [], w2)) (M := mr_371) rfl (show mcode 371 1498 = some (1498, .goto 719, 3, 2217, 0, 0, _) from rfl) (Or.inr (Or.inl ⟨2217, [], rfl, rfl⟩)) ?_
  exact XW.wid (mc := mc) (ms := ms) (by omega) (by omega) (K w2 ⟨hf2, ⟨_, _, hw2⟩, ⟨(c2_0.trans c1_0).trans (hv.1.trans (m1_0.symm.trans m2_0.symm)), (c2_1.trans c1_1).trans (hv.2.1.trans (m1_1.symm.trans m2_1.symm)), (c2_2.trans c1_2).trans (hv.2.2.1.trans (m1_2.symm.trans m2_2.symm)), fun k => ((c2_3 k).trans (c1_3 k)).trans ((hv.2.2.2.1 k).trans ((m1_3 k).symm.trans (m2_3 k).symm)), (c2_4.trans c1_4).trans (hv.2.2.2.2.1.trans (m1_4.symm.trans m2_4.symm)), fun k => ((c2_5 k).trans (c1_5 k)).trans ((hv.2.2.2.2.2.1 k).trans ((m1_5 k).symm.trans (m2_5 k).symm)), fun k => ((c2_6 k).trans (c1_6 k)).trans ((hv.2.2.2.2.2.2.1 k).trans ((m1_6 k).symm.trans (m2_6 k).symm)), RLf_keep (fun k => (y2_7_0 k).trans (y1_7_0 k)) (fun k => (y2_7_1 k).trans (y1_7_1 k)) (fun k => (y2_7_2 k).trans (y1_7_2 k)) (fun k => (y2_7_3 k).trans (y1_7_3 k)) (y2_7_4.trans y1_7_4) hv.2.2.2.2.2.2.2⟩⟩)
set_option maxRecDepth 100000 in
theorem case_35 {Ln : Nat} {xs : Nat → Int32} {mc ms : Nat} {w : mW} {i : Int32} (hi0 : 0 ≤ i.toInt) (hi1 : i.toInt + 6 ≤ Ln) (hL : Ln ≤ 3072) (hV : IV w) (K : ∀ w', IV w' → XW 371 mr_371 (some (Ln, xs)) 91 mc ms Qone (2217, [(3, .int i), (2, .ref 94), (1, .ref 0), (0, .retAddr 0)], [], w')) : XW 371 mr_371 (some (Ln, xs)) 91 (mc + 1) (ms + 240) Qone (1501, [(3, .int i), (2, .ref 94), (1, .ref 0), (0, .retAddr 0)], [], w) := by
  obtain ⟨hf, ⟨sh, R, hw⟩, hv⟩ := hV
  refine XW.fam (S' := (1502, [(3, .int i), (2, .ref 94), (1, .ref 0), (0, .retAddr 0)], [.ref 0], w)) (M := mr_371) rfl (show mcode 371 1501 = some (1501, .aload_n 1, 1, 0, 0, 0, _) from rfl) (Or.inl ⟨.ref 0, rfl, rfl⟩) ?_
  refine lw_ld (pc := 1502) (n := 1) rfl rfl rfl rfl rfl (by decide) hi0 hi1 hL ?_
  refine XW.call (d' := 42) (mc' := 0) (ms' := 0) (av := [.ref 0, .int (xs (i + Int32.ofInt 1).toNatClampNeg)]) (rest := []) (M := mr_371) (Ma := mr_166) rfl (show mcode 371 1507 = some (1507, .invokevirtual 158, 3, 166, 0, 0, _) from rfl) rfl (by decide) (by decide) ⟨rfl, 0, _, rfl, (iv_cell hw).1⟩ rfl rfl (show _ ≤ 8 by decide) (kk_126 [.ref 0, .int (xs (i + Int32.ofInt 1).toNatClampNeg)] w hw ⟨rfl, any32 _, trivial⟩ (fun q hq => by cases hq) hf) (by decide) (by omega) (by omega) (fun r1 w1 hQ1 => ?_)
  obtain ⟨hf1, hw1, hI1, ⟨x1, rfl, -, -⟩, -⟩ := hQ1
  have c1_0 : w1.2.1 1 1 = w.2.1 1 1 := hI1 1 1 rfl
  have m1_0 : w1.2.1 94 2 = w.2.1 94 2 := hI1 94 2 rfl
  have c1_1 : w1.2.1 1 0 = w.2.1 1 0 := hI1 1 0 rfl
  have m1_1 : w1.2.1 94 1 = w.2.1 94 1 := hI1 94 1 rfl
  have c1_2 : w1.2.1 41 0 = w.2.1 41 0 := hI1 41 0 rfl
  have m1_2 : w1.2.1 94 34 = w.2.1 94 34 := hI1 94 34 rfl
  have c1_3 : ∀ k, w1.2.1 42 k = w.2.1 42 k := fun k => hI1 42 k rfl
  have m1_3 : ∀ k, w1.2.1 122 k = w.2.1 122 k := fun k => hI1 122 k rfl
  have c1_4 : w1.2.1 47 3 = w.2.1 47 3 := hI1 47 3 rfl
  have m1_4 : w1.2.1 94 35 = w.2.1 94 35 := hI1 94 35 rfl
  have c1_5 : ∀ k, w1.2.1 48 k = w.2.1 48 k := fun k => hI1 48 k rfl
  have m1_5 : ∀ k, w1.2.1 123 k = w.2.1 123 k := fun k => hI1 123 k rfl
  have c1_6 : ∀ k, w1.2.1 49 k = w.2.1 49 k := fun k => hI1 49 k rfl
  have m1_6 : ∀ k, w1.2.1 124 k = w.2.1 124 k := fun k => hI1 124 k rfl
  have y1_7_0 : ∀ k, w1.2.1 5 k = w.2.1 5 k := fun k => hI1 5 k rfl
  have y1_7_1 : ∀ k, w1.2.1 98 k = w.2.1 98 k := fun k => hI1 98 k rfl
  have y1_7_2 : ∀ k, w1.2.1 8 k = w.2.1 8 k := fun k => hI1 8 k rfl
  have y1_7_3 : ∀ k, w1.2.1 102 k = w.2.1 102 k := fun k => hI1 102 k rfl
  have y1_7_4 : w1.2.1 1 1 = w.2.1 1 1 := hI1 1 1 rfl
  refine XW.fam (S' := (1511, [(3, .int i), (2, .ref 94), (1, .ref 0), (0, .retAddr 0)], [], w1)) (M := mr_371) rfl (show mcode 371 1510 = some (1510, .pop, 1, 0, 0, 0, _) from rfl) (Or.inr (Or.inr (Or.inr (Or.inr (Or.inr (Or.inl ⟨_, rfl, rfl⟩)))))) ?_
  refine XW.fam (S' := (1512, [(3, .int i), (2, .ref 94), (1, .ref 0), (0, .retAddr 0)], [.ref 94], w1)) (M := mr_371) rfl (show mcode 371 1511 = some (1511, .aload_n 2, 1, 0, 0, 0, _) from rfl) (Or.inl ⟨.ref 94, rfl, rfl⟩) ?_
  refine lw_ld (pc := 1512) (n := 1) rfl rfl rfl rfl rfl (by decide) hi0 hi1 hL ?_
  refine XW.call (d' := 41) (mc' := 0) (ms' := 0) (av := [.ref 94, .int (xs (i + Int32.ofInt 1).toNatClampNeg)]) (rest := []) (M := mr_371) (Ma := mr_328) rfl (show mcode 371 1517 = some (1517, .invokevirtual 161, 3, 328, 0, 0, _) from rfl) rfl (by decide) (by decide) ⟨rfl, 94, _, rfl, (iv_cell hw1).2⟩ rfl rfl (show _ ≤ 8 by decide) (kk_337 [.ref 94, .int (xs (i + Int32.ofInt 1).toNatClampNeg)] w1 hw1 ⟨rfl, any32 _, trivial⟩ (fun q hq => by cases hq) hf1) (by decide) (by omega) (by omega) (fun r2 w2 hQ2 => ?_)
  obtain ⟨hf2, hw2, hI2, ⟨x2, rfl, -, -⟩, -⟩ := hQ2
  have c2_0 : w2.2.1 1 1 = w1.2.1 1 1 := hI2 1 1 rfl
  have m2_0 : w2.2.1 94 2 = w1.2.1 94 2 := hI2 94 2 rfl
  have c2_1 : w2.2.1 1 0 = w1.2.1 1 0 := hI2 1 0 rfl
  have m2_1 : w2.2.1 94 1 = w1.2.1 94 1 := hI2 94 1 rfl
  have c2_2 : w2.2.1 41 0 = w1.2.1 41 0 := hI2 41 0 rfl
  have m2_2 : w2.2.1 94 34 = w1.2.1 94 34 := hI2 94 34 rfl
  have c2_3 : ∀ k, w2.2.1 42 k = w1.2.1 42 k := fun k => hI2 42 k rfl
  have m2_3 : ∀ k, w2.2.1 122 k = w1.2.1 122 k := fun k => hI2 122 k rfl
  have c2_4 : w2.2.1 47 3 = w1.2.1 47 3 := hI2 47 3 rfl
  have m2_4 : w2.2.1 94 35 = w1.2.1 94 35 := hI2 94 35 rfl
  have c2_5 : ∀ k, w2.2.1 48 k = w1.2.1 48 k := fun k => hI2 48 k rfl
  have m2_5 : ∀ k, w2.2.1 123 k = w1.2.1 123 k := fun k => hI2 123 k rfl
  have c2_6 : ∀ k, w2.2.1 49 k = w1.2.1 49 k := fun k => hI2 49 k rfl
  have m2_6 : ∀ k, w2.2.1 124 k = w1.2.1 124 k := fun k => hI2 124 k rfl
  have y2_7_0 : ∀ k, w2.2.1 5 k = w1.2.1 5 k := fun k => hI2 5 k rfl
  have y2_7_1 : ∀ k, w2.2.1 98 k = w1.2.1 98 k := fun k => hI2 98 k rfl
  have y2_7_2 : ∀ k, w2.2.1 8 k = w1.2.1 8 k := fun k => hI2 8 k rfl
  have y2_7_3 : ∀ k, w2.2.1 102 k = w1.2.1 102 k := fun k => hI2 102 k rfl
  have y2_7_4 : w2.2.1 1 1 = w1.2.1 1 1 := hI2 1 1 rfl
  refine XW.fam (S' := (1521, [(3, .int i), (2, .ref 94), (1, .ref 0), (0, .retAddr 0)], [], w2)) (M := mr_371) rfl (show mcode 371 1520 = some (1520, .pop, 1, 0, 0, 0, _) from rfl) (Or.inr (Or.inr (Or.inr (Or.inr (Or.inr (Or.inl ⟨_, rfl, rfl⟩)))))) ?_
  refine XW.fam (S' := (2217, [(3, .int i), (2, .ref 94), (1, .ref 0), (0, .retAddr 0)], [], w2)) (M := mr_371) rfl (show mcode 371 1521 = some (1521, .goto 696, 3, 2217, 0, 0, _) from rfl) (Or.inr (Or.inl ⟨2217, [], rfl, rfl⟩)) ?_
  exact XW.wid (mc := mc) (ms := ms) (by omega) (by omega) (K w2 ⟨hf2, ⟨_, _, hw2⟩, ⟨(c2_0.trans c1_0).trans (hv.1.trans (m1_0.symm.trans m2_0.symm)), (c2_1.trans c1_1).trans (hv.2.1.trans (m1_1.symm.trans m2_1.symm)), (c2_2.trans c1_2).trans (hv.2.2.1.trans (m1_2.symm.trans m2_2.symm)), fun k => ((c2_3 k).trans (c1_3 k)).trans ((hv.2.2.2.1 k).trans ((m1_3 k).symm.trans (m2_3 k).symm)), (c2_4.trans c1_4).trans (hv.2.2.2.2.1.trans (m1_4.symm.trans m2_4.symm)), fun k => ((c2_5 k).trans (c1_5 k)).trans ((hv.2.2.2.2.2.1 k).trans ((m1_5 k).symm.trans (m2_5 k).symm)), fun k => ((c2_6 k).trans (c1_6 k)).trans ((hv.2.2.2.2.2.2.1 k).trans ((m1_6 k).symm.trans (m2_6 k).symm)), RLf_keep (fun k => (y2_7_0 k).trans (y1_7_0 k)) (fun k => (y2_7_1 k).trans (y1_7_1 k)) (fun k => (y2_7_2 k).trans (y1_7_2 k)) (fun k => (y2_7_3 k).trans (y1_7_3 k)) (y2_7_4.trans y1_7_4) hv.2.2.2.2.2.2.2⟩⟩)
set_option maxRecDepth 100000 in
theorem case_36 {Ln : Nat} {xs : Nat → Int32} {mc ms : Nat} {w : mW} {i : Int32} (hi0 : 0 ≤ i.toInt) (hi1 : i.toInt + 6 ≤ Ln) (hL : Ln ≤ 3072) (hV : IV w) (K : ∀ w', IV w' → XW 371 mr_371 (some (Ln, xs)) 91 mc ms Qone (2217, [(3, .int i), (2, .ref 94), (1, .ref 0), (0, .retAddr 0)], [], w')) : XW 371 mr_371 (some (Ln, xs)) 91 (mc + 1) (ms + 240) Qone (1524, [(3, .int i), (2, .ref 94), (1, .ref 0), (0, .retAddr 0)], [], w) := by
  obtain ⟨hf, ⟨sh, R, hw⟩, hv⟩ := hV
  refine XW.fam (S' := (1525, [(3, .int i), (2, .ref 94), (1, .ref 0), (0, .retAddr 0)], [.ref 0], w)) (M := mr_371) rfl (show mcode 371 1524 = some (1524, .aload_n 1, 1, 0, 0, 0, _) from rfl) (Or.inl ⟨.ref 0, rfl, rfl⟩) ?_
  refine XW.call (d' := 88) (mc' := 0) (ms' := 0) (av := [.ref 0]) (rest := []) (M := mr_371) (Ma := mr_168) rfl (show mcode 371 1525 = some (1525, .invokevirtual 162, 3, 168, 0, 0, _) from rfl) rfl (by decide) (by decide) ⟨rfl, 0, _, rfl, (iv_cell hw).1⟩ rfl rfl (show _ ≤ 8 by decide) (kk_180 [.ref 0] w hw ⟨rfl, trivial⟩ (fun q hq => by cases hq) hf) (by decide) (by omega) (by omega) (fun r1 w1 hQ1 => ?_)
  obtain ⟨hf1, hw1, hI1, ⟨x1, rfl, -, -⟩, -⟩ := hQ1
  have c1_0 : w1.2.1 1 1 = w.2.1 1 1 := hI1 1 1 rfl
  have m1_0 : w1.2.1 94 2 = w.2.1 94 2 := hI1 94 2 rfl
  have c1_1 : w1.2.1 1 0 = w.2.1 1 0 := hI1 1 0 rfl
  have m1_1 : w1.2.1 94 1 = w.2.1 94 1 := hI1 94 1 rfl
  have c1_2 : w1.2.1 41 0 = w.2.1 41 0 := hI1 41 0 rfl
  have m1_2 : w1.2.1 94 34 = w.2.1 94 34 := hI1 94 34 rfl
  have c1_3 : ∀ k, w1.2.1 42 k = w.2.1 42 k := fun k => hI1 42 k rfl
  have m1_3 : ∀ k, w1.2.1 122 k = w.2.1 122 k := fun k => hI1 122 k rfl
  have c1_4 : w1.2.1 47 3 = w.2.1 47 3 := hI1 47 3 rfl
  have m1_4 : w1.2.1 94 35 = w.2.1 94 35 := hI1 94 35 rfl
  have c1_5 : ∀ k, w1.2.1 48 k = w.2.1 48 k := fun k => hI1 48 k rfl
  have m1_5 : ∀ k, w1.2.1 123 k = w.2.1 123 k := fun k => hI1 123 k rfl
  have c1_6 : ∀ k, w1.2.1 49 k = w.2.1 49 k := fun k => hI1 49 k rfl
  have m1_6 : ∀ k, w1.2.1 124 k = w.2.1 124 k := fun k => hI1 124 k rfl
  have y1_7_0 : ∀ k, w1.2.1 5 k = w.2.1 5 k := fun k => hI1 5 k rfl
  have y1_7_1 : ∀ k, w1.2.1 98 k = w.2.1 98 k := fun k => hI1 98 k rfl
  have y1_7_2 : ∀ k, w1.2.1 8 k = w.2.1 8 k := fun k => hI1 8 k rfl
  have y1_7_3 : ∀ k, w1.2.1 102 k = w.2.1 102 k := fun k => hI1 102 k rfl
  have y1_7_4 : w1.2.1 1 1 = w.2.1 1 1 := hI1 1 1 rfl
  refine XW.fam (S' := (1529, [(3, .int i), (2, .ref 94), (1, .ref 0), (0, .retAddr 0)], [], w1)) (M := mr_371) rfl (show mcode 371 1528 = some (1528, .pop, 1, 0, 0, 0, _) from rfl) (Or.inr (Or.inr (Or.inr (Or.inr (Or.inr (Or.inl ⟨_, rfl, rfl⟩)))))) ?_
  refine XW.fam (S' := (1530, [(3, .int i), (2, .ref 94), (1, .ref 0), (0, .retAddr 0)], [.ref 94], w1)) (M := mr_371) rfl (show mcode 371 1529 = some (1529, .aload_n 2, 1, 0, 0, 0, _) from rfl) (Or.inl ⟨.ref 94, rfl, rfl⟩) ?_
  refine XW.call (d' := 87) (mc' := 0) (ms' := 0) (av := [.ref 94]) (rest := []) (M := mr_371) (Ma := mr_329) rfl (show mcode 371 1530 = some (1530, .invokevirtual 166, 3, 329, 0, 0, _) from rfl) rfl (by decide) (by decide) ⟨rfl, 94, _, rfl, (iv_cell hw1).2⟩ rfl rfl (show _ ≤ 8 by decide) (kk_388 [.ref 94] w1 hw1 ⟨rfl, trivial⟩ (fun q hq => by cases hq) hf1) (by decide) (by omega) (by omega) (fun r2 w2 hQ2 => ?_)
  obtain ⟨hf2, hw2, hI2, ⟨x2, rfl, -, -⟩, -⟩ := hQ2
  have c2_0 : w2.2.1 1 1 = w1.2.1 1 1 := hI2 1 1 rfl
  have m2_0 : w2.2.1 94 2 = w1.2.1 94 2 := hI2 94 2 rfl
  have c2_1 : w2.2.1 1 0 = w1.2.1 1 0 := hI2 1 0 rfl
  have m2_1 : w2.2.1 94 1 = w1.2.1 94 1 := hI2 94 1 rfl
  have c2_2 : w2.2.1 41 0 = w1.2.1 41 0 := hI2 41 0 rfl
  have m2_2 : w2.2.1 94 34 = w1.2.1 94 34 := hI2 94 34 rfl
  have c2_3 : ∀ k, w2.2.1 42 k = w1.2.1 42 k := fun k => hI2 42 k rfl
  have m2_3 : ∀ k, w2.2.1 122 k = w1.2.1 122 k := fun k => hI2 122 k rfl
  have c2_4 : w2.2.1 47 3 = w1.2.1 47 3 := hI2 47 3 rfl
  have m2_4 : w2.2.1 94 35 = w1.2.1 94 35 := hI2 94 35 rfl
  have c2_5 : ∀ k, w2.2.1 48 k = w1.2.1 48 k := fun k => hI2 48 k rfl
  have m2_5 : ∀ k, w2.2.1 123 k = w1.2.1 123 k := fun k => hI2 123 k rfl
  have c2_6 : ∀ k, w2.2.1 49 k = w1.2.1 49 k := fun k => hI2 49 k rfl
  have m2_6 : ∀ k, w2.2.1 124 k = w1.2.1 124 k := fun k => hI2 124 k rfl
  have y2_7_0 : ∀ k, w2.2.1 5 k = w1.2.1 5 k := fun k => hI2 5 k rfl
  have y2_7_1 : ∀ k, w2.2.1 98 k = w1.2.1 98 k := fun k => hI2 98 k rfl
  have y2_7_2 : ∀ k, w2.2.1 8 k = w1.2.1 8 k := fun k => hI2 8 k rfl
  have y2_7_3 : ∀ k, w2.2.1 102 k = w1.2.1 102 k := fun k => hI2 102 k rfl
  have y2_7_4 : w2.2.1 1 1 = w1.2.1 1 1 := hI2 1 1 rfl
  refine XW.fam (S' := (1534, [(3, .int i), (2, .ref 94), (1, .ref 0), (0, .retAddr 0)], [], w2)) (M := mr_371) rfl (show mcode 371 1533 = some (1533, .pop, 1, 0, 0, 0, _) from rfl) (Or.inr (Or.inr (Or.inr (Or.inr (Or.inr (Or.inl ⟨_, rfl, rfl⟩)))))) ?_
  refine XW.fam (S' := (2217, [(3, .int i), (2, .ref 94), (1, .ref 0), (0, .retAddr 0)], [], w2)) (M := mr_371) rfl (show mcode 371 1534 = some (1534, .goto 683, 3, 2217, 0, 0, _) from rfl) (Or.inr (Or.inl ⟨2217, [], rfl, rfl⟩)) ?_
  exact XW.wid (mc := mc) (ms := ms) (by omega) (by omega) (K w2 ⟨hf2, ⟨_, _, hw2⟩, ⟨(c2_0.trans c1_0).trans (hv.1.trans (m1_0.symm.trans m2_0.symm)), (c2_1.trans c1_1).trans (hv.2.1.trans (m1_1.symm.trans m2_1.symm)), (c2_2.trans c1_2).trans (hv.2.2.1.trans (m1_2.symm.trans m2_2.symm)), fun k => ((c2_3 k).trans (c1_3 k)).trans ((hv.2.2.2.1 k).trans ((m1_3 k).symm.trans (m2_3 k).symm)), (c2_4.trans c1_4).trans (hv.2.2.2.2.1.trans (m1_4.symm.trans m2_4.symm)), fun k => ((c2_5 k).trans (c1_5 k)).trans ((hv.2.2.2.2.2.1 k).trans ((m1_5 k).symm.trans (m2_5 k).symm)), fun k => ((c2_6 k).trans (c1_6 k)).trans ((hv.2.2.2.2.2.2.1 k).trans ((m1_6 k).symm.trans (m2_6 k).symm)), RLf_keep (fun k => (y2_7_0 k).trans (y1_7_0 k)) (fun k => (y2_7_1 k).trans (y1_7_1 k)) (fun k => (y2_7_2 k).trans (y1_7_2 k)) (fun k => (y2_7_3 k).trans (y1_7_3 k)) (y2_7_4.trans y1_7_4) hv.2.2.2.2.2.2.2⟩⟩)
set_option maxRecDepth 100000 in
theorem case_37 {Ln : Nat} {xs : Nat → Int32} {mc ms : Nat} {w : mW} {i : Int32} (hi0 : 0 ≤ i.toInt) (hi1 : i.toInt + 6 ≤ Ln) (hL : Ln ≤ 3072) (hV : IV w) (K : ∀ w', IV w' → XW 371 mr_371 (some (Ln, xs)) 91 mc ms Qone (2217, [(3, .int i), (2, .ref 94), (1, .ref 0), (0, .retAddr 0)], [], w')) : XW 371 mr_371 (some (Ln, xs)) 91 (mc + 1) (ms + 240) Qone (1537, [(3, .int i), (2, .ref 94), (1, .ref 0), (0, .retAddr 0)], [], w) := by
  obtain ⟨hf, ⟨sh, R, hw⟩, hv⟩ := hV
  refine XW.fam (S' := (1538, [(3, .int i), (2, .ref 94), (1, .ref 0), (0, .retAddr 0)], [.ref 0], w)) (M := mr_371) rfl (show mcode 371 1537 = some (1537, .aload_n 1, 1, 0, 0, 0, _) from rfl) (Or.inl ⟨.ref 0, rfl, rfl⟩) ?_
  refine lw_ld (pc := 1538) (n := 1) rfl rfl rfl rfl rfl (by decide) hi0 hi1 hL ?_
  refine XW.call (d' := 41) (mc' := 0) (ms' := 0) (av := [.ref 0, .int (xs (i + Int32.ofInt 1).toNatClampNeg)]) (rest := []) (M := mr_371) (Ma := mr_175) rfl (show mcode 371 1543 = some (1543, .invokevirtual 167, 3, 175, 0, 0, _) from rfl) rfl (by decide) (by decide) ⟨rfl, 0, _, rfl, (iv_cell hw).1⟩ rfl rfl (show _ ≤ 8 by decide) (kk_181 [.ref 0, .int (xs (i + Int32.ofInt 1).toNatClampNeg)] w hw ⟨rfl, any32 _, trivial⟩ (fun q hq => by cases hq) hf) (by decide) (by omega) (by omega) (fun r1 w1 hQ1 => ?_)
  obtain ⟨hf1, hw1, hI1, ⟨x1, rfl, -, -⟩, -⟩ := hQ1
  have c1_0 : w1.2.1 1 1 = w.2.1 1 1 := hI1 1 1 rfl
  have m1_0 : w1.2.1 94 2 = w.2.1 94 2 := hI1 94 2 rfl
  have c1_1 : w1.2.1 1 0 = w.2.1 1 0 := hI1 1 0 rfl
  have m1_1 : w1.2.1 94 1 = w.2.1 94 1 := hI1 94 1 rfl
  have c1_2 : w1.2.1 41 0 = w.2.1 41 0 := hI1 41 0 rfl
  have m1_2 : w1.2.1 94 34 = w.2.1 94 34 := hI1 94 34 rfl
  have c1_3 : ∀ k, w1.2.1 42 k = w.2.1 42 k := fun k => hI1 42 k rfl
  have m1_3 : ∀ k, w1.2.1 122 k = w.2.1 122 k := fun k => hI1 122 k rfl
  have c1_4 : w1.2.1 47 3 = w.2.1 47 3 := hI1 47 3 rfl
  have m1_4 : w1.2.1 94 35 = w.2.1 94 35 := hI1 94 35 rfl
  have c1_5 : ∀ k, w1.2.1 48 k = w.2.1 48 k := fun k => hI1 48 k rfl
  have m1_5 : ∀ k, w1.2.1 123 k = w.2.1 123 k := fun k => hI1 123 k rfl
  have c1_6 : ∀ k, w1.2.1 49 k = w.2.1 49 k := fun k => hI1 49 k rfl
  have m1_6 : ∀ k, w1.2.1 124 k = w.2.1 124 k := fun k => hI1 124 k rfl
  have y1_7_0 : ∀ k, w1.2.1 5 k = w.2.1 5 k := fun k => hI1 5 k rfl
  have y1_7_1 : ∀ k, w1.2.1 98 k = w.2.1 98 k := fun k => hI1 98 k rfl
  have y1_7_2 : ∀ k, w1.2.1 8 k = w.2.1 8 k := fun k => hI1 8 k rfl
  have y1_7_3 : ∀ k, w1.2.1 102 k = w.2.1 102 k := fun k => hI1 102 k rfl
  have y1_7_4 : w1.2.1 1 1 = w.2.1 1 1 := hI1 1 1 rfl
  refine XW.fam (S' := (1547, [(3, .int i), (2, .ref 94), (1, .ref 0), (0, .retAddr 0)], [], w1)) (M := mr_371) rfl (show mcode 371 1546 = some (1546, .pop, 1, 0, 0, 0, _) from rfl) (Or.inr (Or.inr (Or.inr (Or.inr (Or.inr (Or.inl ⟨_, rfl, rfl⟩)))))) ?_
  refine XW.fam (S' := (1548, [(3, .int i), (2, .ref 94), (1, .ref 0), (0, .retAddr 0)], [.ref 94], w1)) (M := mr_371) rfl (show mcode 371 1547 = some (1547, .aload_n 2, 1, 0, 0, 0, _) from rfl) (Or.inl ⟨.ref 94, rfl, rfl⟩) ?_
  refine lw_ld (pc := 1548) (n := 1) rfl rfl rfl rfl rfl (by decide) hi0 hi1 hL ?_
  refine XW.call (d' := 41) (mc' := 0) (ms' := 0) (av := [.ref 94, .int (xs (i + Int32.ofInt 1).toNatClampNeg)]) (rest := []) (M := mr_371) (Ma := mr_332) rfl (show mcode 371 1553 = some (1553, .invokevirtual 170, 3, 332, 0, 0, _) from rfl) rfl (by decide) (by decide) ⟨rfl, 94, _, rfl, (iv_cell hw1).2⟩ rfl rfl (show _ ≤ 8 by decide) (kk_389 [.ref 94, .int (xs (i + Int32.ofInt 1).toNatClampNeg)] w1 hw1 ⟨rfl, any32 _, trivial⟩ (fun q hq => by cases hq) hf1) (by decide) (by omega) (by omega) (fun r2 w2 hQ2 => ?_)
  obtain ⟨hf2, hw2, hI2, ⟨x2, rfl, -, -⟩, -⟩ := hQ2
  have c2_0 : w2.2.1 1 1 = w1.2.1 1 1 := hI2 1 1 rfl
  have m2_0 : w2.2.1 94 2 = w1.2.1 94 2 := hI2 94 2 rfl
  have c2_1 : w2.2.1 1 0 = w1.2.1 1 0 := hI2 1 0 rfl
  have m2_1 : w2.2.1 94 1 = w1.2.1 94 1 := hI2 94 1 rfl
  have c2_2 : w2.2.1 41 0 = w1.2.1 41 0 := hI2 41 0 rfl
  have m2_2 : w2.2.1 94 34 = w1.2.1 94 34 := hI2 94 34 rfl
  have c2_3 : ∀ k, w2.2.1 42 k = w1.2.1 42 k := fun k => hI2 42 k rfl
  have m2_3 : ∀ k, w2.2.1 122 k = w1.2.1 122 k := fun k => hI2 122 k rfl
  have c2_4 : w2.2.1 47 3 = w1.2.1 47 3 := hI2 47 3 rfl
  have m2_4 : w2.2.1 94 35 = w1.2.1 94 35 := hI2 94 35 rfl
  have c2_5 : ∀ k, w2.2.1 48 k = w1.2.1 48 k := fun k => hI2 48 k rfl
  have m2_5 : ∀ k, w2.2.1 123 k = w1.2.1 123 k := fun k => hI2 123 k rfl
  have c2_6 : ∀ k, w2.2.1 49 k = w1.2.1 49 k := fun k => hI2 49 k rfl
  have m2_6 : ∀ k, w2.2.1 124 k = w1.2.1 124 k := fun k => hI2 124 k rfl
  have y2_7_0 : ∀ k, w2.2.1 5 k = w1.2.1 5 k := fun k => hI2 5 k rfl
  have y2_7_1 : ∀ k, w2.2.1 98 k = w1.2.1 98 k := fun k => hI2 98 k rfl
  have y2_7_2 : ∀ k, w2.2.1 8 k = w1.2.1 8 k := fun k => hI2 8 k rfl
  have y2_7_3 : ∀ k, w2.2.1 102 k = w1.2.1 102 k := fun k => hI2 102 k rfl
  have y2_7_4 : w2.2.1 1 1 = w1.2.1 1 1 := hI2 1 1 rfl
  refine XW.fam (S' := (1557, [(3, .int i), (2, .ref 94), (1, .ref 0), (0, .retAddr 0)], [], w2)) (M := mr_371) rfl (show mcode 371 1556 = some (1556, .pop, 1, 0, 0, 0, _) from rfl) (Or.inr (Or.inr (Or.inr (Or.inr (Or.inr (Or.inl ⟨_, rfl, rfl⟩)))))) ?_
  refine XW.fam (S' := (2217, [(3, .int i), (2, .ref 94), (1, .ref 0), (0, .retAddr 0)], [], w2)) (M := mr_371) rfl (show mcode 371 1557 = some (1557, .goto 660, 3, 2217, 0, 0, _) from rfl) (Or.inr (Or.inl ⟨2217, [], rfl, rfl⟩)) ?_
  exact XW.wid (mc := mc) (ms := ms) (by omega) (by omega) (K w2 ⟨hf2, ⟨_, _, hw2⟩, ⟨(c2_0.trans c1_0).trans (hv.1.trans (m1_0.symm.trans m2_0.symm)), (c2_1.trans c1_1).trans (hv.2.1.trans (m1_1.symm.trans m2_1.symm)), (c2_2.trans c1_2).trans (hv.2.2.1.trans (m1_2.symm.trans m2_2.symm)), fun k => ((c2_3 k).trans (c1_3 k)).trans ((hv.2.2.2.1 k).trans ((m1_3 k).symm.trans (m2_3 k).symm)), (c2_4.trans c1_4).trans (hv.2.2.2.2.1.trans (m1_4.symm.trans m2_4.symm)), fun k => ((c2_5 k).trans (c1_5 k)).trans ((hv.2.2.2.2.2.1 k).trans ((m1_5 k).symm.trans (m2_5 k).symm)), fun k => ((c2_6 k).trans (c1_6 k)).trans ((hv.2.2.2.2.2.2.1 k).trans ((m1_6 k).symm.trans (m2_6 k).symm)), RLf_keep (fun k => (y2_7_0 k).trans (y1_7_0 k)) (fun k => (y2_7_1 k).trans (y1_7_1 k)) (fun k => (y2_7_2 k).trans (y1_7_2 k)) (fun k => (y2_7_3 k).trans (y1_7_3 k)) (y2_7_4.trans y1_7_4) hv.2.2.2.2.2.2.2⟩⟩)
set_option maxRecDepth 100000 in
theorem case_38 {Ln : Nat} {xs : Nat → Int32} {mc ms : Nat} {w : mW} {i : Int32} (hi0 : 0 ≤ i.toInt) (hi1 : i.toInt + 6 ≤ Ln) (hL : Ln ≤ 3072) (hV : IV w) (K : ∀ w', IV w' → XW 371 mr_371 (some (Ln, xs)) 91 mc ms Qone (2217, [(3, .int i), (2, .ref 94), (1, .ref 0), (0, .retAddr 0)], [], w')) : XW 371 mr_371 (some (Ln, xs)) 91 (mc + 1) (ms + 240) Qone (1560, [(3, .int i), (2, .ref 94), (1, .ref 0), (0, .retAddr 0)], [], w) := by
  obtain ⟨hf, ⟨sh, R, hw⟩, hv⟩ := hV
  refine XW.fam (S' := (1561, [(3, .int i), (2, .ref 94), (1, .ref 0), (0, .retAddr 0)], [.ref 0], w)) (M := mr_371) rfl (show mcode 371 1560 = some (1560, .aload_n 1, 1, 0, 0, 0, _) from rfl) (Or.inl ⟨.ref 0, rfl, rfl⟩) ?_
  refine lw_ld (pc := 1561) (n := 1) rfl rfl rfl rfl rfl (by decide) hi0 hi1 hL ?_
  refine lw_ld (pc := 1566) (n := 2) rfl rfl rfl rfl rfl (by decide) hi0 hi1 hL ?_
  refine XW.call (d' := 44) (mc' := 0) (ms' := 0) (av := [.ref 0, .int (xs (i + Int32.ofInt 1).toNatClampNeg), .int (xs (i + Int32.ofInt 2).toNatClampNeg)]) (rest := []) (M := mr_371) (Ma := mr_177) rfl (show mcode 371 1571 = some (1571, .invokevirtual 171, 3, 177, 0, 0, _) from rfl) rfl (by decide) (by decide) ⟨rfl, 0, _, rfl, (iv_cell hw).1⟩ rfl rfl (show _ ≤ 8 by decide) (kk_184 [.ref 0, .int (xs (i + Int32.ofInt 1).toNatClampNeg), .int (xs (i + Int32.ofInt 2).toNatClampNeg)] w hw ⟨rfl, any32 _, any32 _, trivial⟩ (fun q hq => by cases hq) hf) (by decide) (by omega) (by omega) (fun r1 w1 hQ1 => ?_)
  obtain ⟨hf1, hw1, hI1, ⟨x1, rfl, -, -⟩, -⟩ := hQ1
  have c1_0 : w1.2.1 1 1 = w.2.1 1 1 := hI1 1 1 rfl
  have m1_0 : w1.2.1 94 2 = w.2.1 94 2 := hI1 94 2 rfl
  have c1_1 : w1.2.1 1 0 = w.2.1 1 0 := hI1 1 0 rfl
  have m1_1 : w1.2.1 94 1 = w.2.1 94 1 := hI1 94 1 rfl
  have c1_2 : w1.2.1 41 0 = w.2.1 41 0 := hI1 41 0 rfl
  have m1_2 : w1.2.1 94 34 = w.2.1 94 34 := hI1 94 34 rfl
  have c1_3 : ∀ k, w1.2.1 42 k = w.2.1 42 k := fun k => hI1 42 k rfl
  have m1_3 : ∀ k, w1.2.1 122 k = w.2.1 122 k := fun k => hI1 122 k rfl
  have c1_4 : w1.2.1 47 3 = w.2.1 47 3 := hI1 47 3 rfl
  have m1_4 : w1.2.1 94 35 = w.2.1 94 35 := hI1 94 35 rfl
  have c1_5 : ∀ k, w1.2.1 48 k = w.2.1 48 k := fun k => hI1 48 k rfl
  have m1_5 : ∀ k, w1.2.1 123 k = w.2.1 123 k := fun k => hI1 123 k rfl
  have c1_6 : ∀ k, w1.2.1 49 k = w.2.1 49 k := fun k => hI1 49 k rfl
  have m1_6 : ∀ k, w1.2.1 124 k = w.2.1 124 k := fun k => hI1 124 k rfl
  have y1_7_0 : ∀ k, w1.2.1 5 k = w.2.1 5 k := fun k => hI1 5 k rfl
  have y1_7_1 : ∀ k, w1.2.1 98 k = w.2.1 98 k := fun k => hI1 98 k rfl
  have y1_7_2 : ∀ k, w1.2.1 8 k = w.2.1 8 k := fun k => hI1 8 k rfl
  have y1_7_3 : ∀ k, w1.2.1 102 k = w.2.1 102 k := fun k => hI1 102 k rfl
  have y1_7_4 : w1.2.1 1 1 = w.2.1 1 1 := hI1 1 1 rfl
  refine XW.fam (S' := (1575, [(3, .int i), (2, .ref 94), (1, .ref 0), (0, .retAddr 0)], [], w1)) (M := mr_371) rfl (show mcode 371 1574 = some (1574, .pop, 1, 0, 0, 0, _) from rfl) (Or.inr (Or.inr (Or.inr (Or.inr (Or.inr (Or.inl ⟨_, rfl, rfl⟩)))))) ?_
  refine XW.fam (S' := (1576, [(3, .int i), (2, .ref 94), (1, .ref 0), (0, .retAddr 0)], [.ref 94], w1)) (M := mr_371) rfl (show mcode 371 1575 = some (1575, .aload_n 2, 1, 0, 0, 0, _) from rfl) (Or.inl ⟨.ref 94, rfl, rfl⟩) ?_
  refine lw_ld (pc := 1576) (n := 1) rfl rfl rfl rfl rfl (by decide) hi0 hi1 hL ?_
  refine lw_ld (pc := 1581) (n := 2) rfl rfl rfl rfl rfl (by decide) hi0 hi1 hL ?_
  refine XW.call (d' := 41) (mc' := 0) (ms' := 0) (av := [.ref 94, .int (xs (i + Int32.ofInt 1).toNatClampNeg), .int (xs (i + Int32.ofInt 2).toNatClampNeg)]) (rest := []) (M := mr_371) (Ma := mr_333) rfl (show mcode 371 1586 = some (1586, .invokevirtual 174, 3, 333, 0, 0, _) from rfl) rfl (by decide) (by decide) ⟨rfl, 94, _, rfl, (iv_cell hw1).2⟩ rfl rfl (show _ ≤ 8 by decide) (kk_390 [.ref 94, .int (xs (i + Int32.ofInt 1).toNatClampNeg), .int (xs (i + Int32.ofInt 2).toNatClampNeg)] w1 hw1 ⟨rfl, any32 _, any32 _, trivial⟩ (fun q hq => by cases hq) hf1) (by decide) (by omega) (by omega) (fun r2 w2 hQ2 => ?_)
  obtain ⟨hf2, hw2, hI2, ⟨x2, rfl, -, -⟩, -⟩ := hQ2
  have c2_0 : w2.2.1 1 1 = w1.2.1 1 1 := hI2 1 1 rfl
  have m2_0 : w2.2.1 94 2 = w1.2.1 94 2 := hI2 94 2 rfl
  have c2_1 : w2.2.1 1 0 = w1.2.1 1 0 := hI2 1 0 rfl
  have m2_1 : w2.2.1 94 1 = w1.2.1 94 1 := hI2 94 1 rfl
  have c2_2 : w2.2.1 41 0 = w1.2.1 41 0 := hI2 41 0 rfl
  have m2_2 : w2.2.1 94 34 = w1.2.1 94 34 := hI2 94 34 rfl
  have c2_3 : ∀ k, w2.2.1 42 k = w1.2.1 42 k := fun k => hI2 42 k rfl
  have m2_3 : ∀ k, w2.2.1 122 k = w1.2.1 122 k := fun k => hI2 122 k rfl
  have c2_4 : w2.2.1 47 3 = w1.2.1 47 3 := hI2 47 3 rfl
  have m2_4 : w2.2.1 94 35 = w1.2.1 94 35 := hI2 94 35 rfl
  have c2_5 : ∀ k, w2.2.1 48 k = w1.2.1 48 k := fun k => hI2 48 k rfl
  have m2_5 : ∀ k, w2.2.1 123 k = w1.2.1 123 k := fun k => hI2 123 k rfl
  have c2_6 : ∀ k, w2.2.1 49 k = w1.2.1 49 k := fun k => hI2 49 k rfl
  have m2_6 : ∀ k, w2.2.1 124 k = w1.2.1 124 k := fun k => hI2 124 k rfl
  have y2_7_0 : ∀ k, w2.2.1 5 k = w1.2.1 5 k := fun k => hI2 5 k rfl
  have y2_7_1 : ∀ k, w2.2.1 98 k = w1.2.1 98 k := fun k => hI2 98 k rfl
  have y2_7_2 : ∀ k, w2.2.1 8 k = w1.2.1 8 k := fun k => hI2 8 k rfl
  have y2_7_3 : ∀ k, w2.2.1 102 k = w1.2.1 102 k := fun k => hI2 102 k rfl
  have y2_7_4 : w2.2.1 1 1 = w1.2.1 1 1 := hI2 1 1 rfl
  refine XW.fam (S' := (1590, [(3, .int i), (2, .ref 94), (1, .ref 0), (0, .retAddr 0)], [], w2)) (M := mr_371) rfl (show mcode 371 1589 = some (1589, .pop, 1, 0, 0, 0, _) from rfl) (Or.inr (Or.inr (Or.inr (Or.inr (Or.inr (Or.inl ⟨_, rfl, rfl⟩)))))) ?_
  refine XW.fam (S' := (2217, [(3, .int i), (2, .ref 94), (1, .ref 0), (0, .retAddr 0)], [], w2)) (M := mr_371) rfl (show mcode 371 1590 = some (1590, .goto 627, 3, 2217, 0, 0, _) from rfl) (Or.inr (Or.inl ⟨2217, [], rfl, rfl⟩)) ?_
  exact XW.wid (mc := mc) (ms := ms) (by omega) (by omega) (K w2 ⟨hf2, ⟨_, _, hw2⟩, ⟨(c2_0.trans c1_0).trans (hv.1.trans (m1_0.symm.trans m2_0.symm)), (c2_1.trans c1_1).trans (hv.2.1.trans (m1_1.symm.trans m2_1.symm)), (c2_2.trans c1_2).trans (hv.2.2.1.trans (m1_2.symm.trans m2_2.symm)), fun k => ((c2_3 k).trans (c1_3 k)).trans ((hv.2.2.2.1 k).trans ((m1_3 k).symm.trans (m2_3 k).symm)), (c2_4.trans c1_4).trans (hv.2.2.2.2.1.trans (m1_4.symm.trans m2_4.symm)), fun k => ((c2_5 k).trans (c1_5 k)).trans ((hv.2.2.2.2.2.1 k).trans ((m1_5 k).symm.trans (m2_5 k).symm)), fun k => ((c2_6 k).trans (c1_6 k)).trans ((hv.2.2.2.2.2.2.1 k).trans ((m1_6 k).symm.trans (m2_6 k).symm)), RLf_keep (fun k => (y2_7_0 k).trans (y1_7_0 k)) (fun k => (y2_7_1 k).trans (y1_7_1 k)) (fun k => (y2_7_2 k).trans (y1_7_2 k)) (fun k => (y2_7_3 k).trans (y1_7_3 k)) (y2_7_4.trans y1_7_4) hv.2.2.2.2.2.2.2⟩⟩)
set_option maxRecDepth 100000 in
theorem case_39 {Ln : Nat} {xs : Nat → Int32} {mc ms : Nat} {w : mW} {i : Int32} (hi0 : 0 ≤ i.toInt) (hi1 : i.toInt + 6 ≤ Ln) (hL : Ln ≤ 3072) (hV : IV w) (K : ∀ w', IV w' → XW 371 mr_371 (some (Ln, xs)) 91 mc ms Qone (2217, [(3, .int i), (2, .ref 94), (1, .ref 0), (0, .retAddr 0)], [], w')) : XW 371 mr_371 (some (Ln, xs)) 91 (mc + 1) (ms + 240) Qone (1593, [(3, .int i), (2, .ref 94), (1, .ref 0), (0, .retAddr 0)], [], w) := by
  obtain ⟨hf, ⟨sh, R, hw⟩, hv⟩ := hV
  refine XW.fam (S' := (1594, [(3, .int i), (2, .ref 94), (1, .ref 0), (0, .retAddr 0)], [.ref 0], w)) (M := mr_371) rfl (show mcode 371 1593 = some (1593, .aload_n 1, 1, 0, 0, 0, _) from rfl) (Or.inl ⟨.ref 0, rfl, rfl⟩) ?_
  refine lw_ld (pc := 1594) (n := 1) rfl rfl rfl rfl rfl (by decide) hi0 hi1 hL ?_
  refine XW.call (d' := 53) (mc' := 0) (ms' := 0) (av := [.ref 0, .int (xs (i + Int32.ofInt 1).toNatClampNeg)]) (rest := []) (M := mr_371) (Ma := mr_182) rfl (show mcode 371 1599 = some (1599, .invokevirtual 175, 3, 182, 0, 0, _) from rfl) rfl (by decide) (by decide) ⟨rfl, 0, _, rfl, (iv_cell hw).1⟩ rfl rfl (show _ ≤ 8 by decide) (kk_196 [.ref 0, .int (xs (i + Int32.ofInt 1).toNatClampNeg)] w hw ⟨rfl, any32 _, trivial⟩ (fun q hq => by cases hq) hf) (by decide) (by omega) (by omega) (fun r1 w1 hQ1 => ?_)
  obtain ⟨hf1, hw1, hI1, ⟨x1, rfl, -, -⟩, -⟩ := hQ1
  have c1_0 : w1.2.1 1 1 = w.2.1 1 1 := hI1 1 1 rfl
  have m1_0 : w1.2.1 94 2 = w.2.1 94 2 := hI1 94 2 rfl
  have c1_1 : w1.2.1 1 0 = w.2.1 1 0 := hI1 1 0 rfl
  have m1_1 : w1.2.1 94 1 = w.2.1 94 1 := hI1 94 1 rfl
  have c1_2 : w1.2.1 41 0 = w.2.1 41 0 := hI1 41 0 rfl
  have m1_2 : w1.2.1 94 34 = w.2.1 94 34 := hI1 94 34 rfl
  have c1_3 : ∀ k, w1.2.1 42 k = w.2.1 42 k := fun k => hI1 42 k rfl
  have m1_3 : ∀ k, w1.2.1 122 k = w.2.1 122 k := fun k => hI1 122 k rfl
  have c1_4 : w1.2.1 47 3 = w.2.1 47 3 := hI1 47 3 rfl
  have m1_4 : w1.2.1 94 35 = w.2.1 94 35 := hI1 94 35 rfl
  have c1_5 : ∀ k, w1.2.1 48 k = w.2.1 48 k := fun k => hI1 48 k rfl
  have m1_5 : ∀ k, w1.2.1 123 k = w.2.1 123 k := fun k => hI1 123 k rfl
  have c1_6 : ∀ k, w1.2.1 49 k = w.2.1 49 k := fun k => hI1 49 k rfl
  have m1_6 : ∀ k, w1.2.1 124 k = w.2.1 124 k := fun k => hI1 124 k rfl
  have y1_7_0 : ∀ k, w1.2.1 5 k = w.2.1 5 k := fun k => hI1 5 k rfl
  have y1_7_1 : ∀ k, w1.2.1 98 k = w.2.1 98 k := fun k => hI1 98 k rfl
  have y1_7_2 : ∀ k, w1.2.1 8 k = w.2.1 8 k := fun k => hI1 8 k rfl
  have y1_7_3 : ∀ k, w1.2.1 102 k = w.2.1 102 k := fun k => hI1 102 k rfl
  have y1_7_4 : w1.2.1 1 1 = w.2.1 1 1 := hI1 1 1 rfl
  refine XW.fam (S' := (1603, [(3, .int i), (2, .ref 94), (1, .ref 0), (0, .retAddr 0)], [], w1)) (M := mr_371) rfl (show mcode 371 1602 = some (1602, .pop, 1, 0, 0, 0, _) from rfl) (Or.inr (Or.inr (Or.inr (Or.inr (Or.inr (Or.inl ⟨_, rfl, rfl⟩)))))) ?_
  refine XW.fam (S' := (1604, [(3, .int i), (2, .ref 94), (1, .ref 0), (0, .retAddr 0)], [.ref 94], w1)) (M := mr_371) rfl (show mcode 371 1603 = some (1603, .aload_n 2, 1, 0, 0, 0, _) from rfl) (Or.inl ⟨.ref 94, rfl, rfl⟩) ?_
  refine lw_ld (pc := 1604) (n := 1) rfl rfl rfl rfl rfl (by decide) hi0 hi1 hL ?_
  refine XW.call (d' := 53) (mc' := 0) (ms' := 0) (av := [.ref 94, .int (xs (i + Int32.ofInt 1).toNatClampNeg)]) (rest := []) (M := mr_371) (Ma := mr_334) rfl (show mcode 371 1609 = some (1609, .invokevirtual 178, 3, 334, 0, 0, _) from rfl) rfl (by decide) (by decide) ⟨rfl, 94, _, rfl, (iv_cell hw1).2⟩ rfl rfl (show _ ≤ 8 by decide) (kk_403 [.ref 94, .int (xs (i + Int32.ofInt 1).toNatClampNeg)] w1 hw1 ⟨rfl, any32 _, trivial⟩ (fun q hq => by cases hq) hf1) (by decide) (by omega) (by omega) (fun r2 w2 hQ2 => ?_)
  obtain ⟨hf2, hw2, hI2, ⟨x2, rfl, -, -⟩, -⟩ := hQ2
  have c2_0 : w2.2.1 1 1 = w1.2.1 1 1 := hI2 1 1 rfl
  have m2_0 : w2.2.1 94 2 = w1.2.1 94 2 := hI2 94 2 rfl
  have c2_1 : w2.2.1 1 0 = w1.2.1 1 0 := hI2 1 0 rfl
  have m2_1 : w2.2.1 94 1 = w1.2.1 94 1 := hI2 94 1 rfl
  have c2_2 : w2.2.1 41 0 = w1.2.1 41 0 := hI2 41 0 rfl
  have m2_2 : w2.2.1 94 34 = w1.2.1 94 34 := hI2 94 34 rfl
  have c2_3 : ∀ k, w2.2.1 42 k = w1.2.1 42 k := fun k => hI2 42 k rfl
  have m2_3 : ∀ k, w2.2.1 122 k = w1.2.1 122 k := fun k => hI2 122 k rfl
  have c2_4 : w2.2.1 47 3 = w1.2.1 47 3 := hI2 47 3 rfl
  have m2_4 : w2.2.1 94 35 = w1.2.1 94 35 := hI2 94 35 rfl
  have c2_5 : ∀ k, w2.2.1 48 k = w1.2.1 48 k := fun k => hI2 48 k rfl
  have m2_5 : ∀ k, w2.2.1 123 k = w1.2.1 123 k := fun k => hI2 123 k rfl
  have c2_6 : ∀ k, w2.2.1 49 k = w1.2.1 49 k := fun k => hI2 49 k rfl
  have m2_6 : ∀ k, w2.2.1 124 k = w1.2.1 124 k := fun k => hI2 124 k rfl
  have y2_7_0 : ∀ k, w2.2.1 5 k = w1.2.1 5 k := fun k => hI2 5 k rfl
  have y2_7_1 : ∀ k, w2.2.1 98 k = w1.2.1 98 k := fun k => hI2 98 k rfl
  have y2_7_2 : ∀ k, w2.2.1 8 k = w1.2.1 8 k := fun k => hI2 8 k rfl
  have y2_7_3 : ∀ k, w2.2.1 102 k = w1.2.1 102 k := fun k => hI2 102 k rfl
  have y2_7_4 : w2.2.1 1 1 = w1.2.1 1 1 := hI2 1 1 rfl
  refine XW.fam (S' := (1613, [(3, .int i), (2, .ref 94), (1, .ref 0), (0, .retAddr 0)], [], w2)) (M := mr_371) rfl (show mcode 371 1612 = some (1612, .pop, 1, 0, 0, 0, _) from rfl) (Or.inr (Or.inr (Or.inr (Or.inr (Or.inr (Or.inl ⟨_, rfl, rfl⟩)))))) ?_
  refine XW.fam (S' := (2217, [(3, .int i), (2, .ref 94), (1, .ref 0), (0, .retAddr 0)], [], w2)) (M := mr_371) rfl (show mcode 371 1613 = some (1613, .goto 604, 3, 2217, 0, 0, _) from rfl) (Or.inr (Or.inl ⟨2217, [], rfl, rfl⟩)) ?_
  exact XW.wid (mc := mc) (ms := ms) (by omega) (by omega) (K w2 ⟨hf2, ⟨_, _, hw2⟩, ⟨(c2_0.trans c1_0).trans (hv.1.trans (m1_0.symm.trans m2_0.symm)), (c2_1.trans c1_1).trans (hv.2.1.trans (m1_1.symm.trans m2_1.symm)), (c2_2.trans c1_2).trans (hv.2.2.1.trans (m1_2.symm.trans m2_2.symm)), fun k => ((c2_3 k).trans (c1_3 k)).trans ((hv.2.2.2.1 k).trans ((m1_3 k).symm.trans (m2_3 k).symm)), (c2_4.trans c1_4).trans (hv.2.2.2.2.1.trans (m1_4.symm.trans m2_4.symm)), fun k => ((c2_5 k).trans (c1_5 k)).trans ((hv.2.2.2.2.2.1 k).trans ((m1_5 k).symm.trans (m2_5 k).symm)), fun k => ((c2_6 k).trans (c1_6 k)).trans ((hv.2.2.2.2.2.2.1 k).trans ((m1_6 k).symm.trans (m2_6 k).symm)), RLf_keep (fun k => (y2_7_0 k).trans (y1_7_0 k)) (fun k => (y2_7_1 k).trans (y1_7_1 k)) (fun k => (y2_7_2 k).trans (y1_7_2 k)) (fun k => (y2_7_3 k).trans (y1_7_3 k)) (y2_7_4.trans y1_7_4) hv.2.2.2.2.2.2.2⟩⟩)
set_option maxRecDepth 100000 in
theorem case_40 {Ln : Nat} {xs : Nat → Int32} {mc ms : Nat} {w : mW} {i : Int32} (hi0 : 0 ≤ i.toInt) (hi1 : i.toInt + 6 ≤ Ln) (hL : Ln ≤ 3072) (hV : IV w) (K : ∀ w', IV w' → XW 371 mr_371 (some (Ln, xs)) 91 mc ms Qone (2217, [(3, .int i), (2, .ref 94), (1, .ref 0), (0, .retAddr 0)], [], w')) : XW 371 mr_371 (some (Ln, xs)) 91 (mc + 1) (ms + 240) Qone (1616, [(3, .int i), (2, .ref 94), (1, .ref 0), (0, .retAddr 0)], [], w) := by
  obtain ⟨hf, ⟨sh, R, hw⟩, hv⟩ := hV
  refine XW.fam (S' := (1617, [(3, .int i), (2, .ref 94), (1, .ref 0), (0, .retAddr 0)], [.ref 0], w)) (M := mr_371) rfl (show mcode 371 1616 = some (1616, .aload_n 1, 1, 0, 0, 0, _) from rfl) (Or.inl ⟨.ref 0, rfl, rfl⟩) ?_
  refine lw_ld (pc := 1617) (n := 1) rfl rfl rfl rfl rfl (by decide) hi0 hi1 hL ?_
  refine XW.call (d' := 41) (mc' := 0) (ms' := 0) (av := [.ref 0, .int (xs (i + Int32.ofInt 1).toNatClampNeg)]) (rest := []) (M := mr_371) (Ma := mr_188) rfl (show mcode 371 1622 = some (1622, .invokevirtual 179, 3, 188, 0, 0, _) from rfl) rfl (by decide) (by decide) ⟨rfl, 0, _, rfl, (iv_cell hw).1⟩ rfl rfl (show _ ≤ 8 by decide) (kk_197 [.ref 0, .int (xs (i + Int32.ofInt 1).toNatClampNeg)] w hw ⟨rfl, any32 _, trivial⟩ (fun q hq => by cases hq) hf) (by decide) (by omega) (by omega) (fun r1 w1 hQ1 => ?_)
  obtain ⟨hf1, hw1, hI1, ⟨x1, rfl, -, -⟩, -⟩ := hQ1
  have c1_0 : w1.2.1 1 1 = w.2.1 1 1 := hI1 1 1 rfl
  have m1_0 : w1.2.1 94 2 = w.2.1 94 2 := hI1 94 2 rfl
  have c1_1 : w1.2.1 1 0 = w.2.1 1 0 := hI1 1 0 rfl
  have m1_1 : w1.2.1 94 1 = w.2.1 94 1 := hI1 94 1 rfl
  have c1_2 : w1.2.1 41 0 = w.2.1 41 0 := hI1 41 0 rfl
  have m1_2 : w1.2.1 94 34 = w.2.1 94 34 := hI1 94 34 rfl
  have c1_3 : ∀ k, w1.2.1 42 k = w.2.1 42 k := fun k => hI1 42 k rfl
  have m1_3 : ∀ k, w1.2.1 122 k = w.2.1 122 k := fun k => hI1 122 k rfl
  have c1_4 : w1.2.1 47 3 = w.2.1 47 3 := hI1 47 3 rfl
  have m1_4 : w1.2.1 94 35 = w.2.1 94 35 := hI1 94 35 rfl
  have c1_5 : ∀ k, w1.2.1 48 k = w.2.1 48 k := fun k => hI1 48 k rfl
  have m1_5 : ∀ k, w1.2.1 123 k = w.2.1 123 k := fun k => hI1 123 k rfl
  have c1_6 : ∀ k, w1.2.1 49 k = w.2.1 49 k := fun k => hI1 49 k rfl
  have m1_6 : ∀ k, w1.2.1 124 k = w.2.1 124 k := fun k => hI1 124 k rfl
  have y1_7_0 : ∀ k, w1.2.1 5 k = w.2.1 5 k := fun k => hI1 5 k rfl
  have y1_7_1 : ∀ k, w1.2.1 98 k = w.2.1 98 k := fun k => hI1 98 k rfl
  have y1_7_2 : ∀ k, w1.2.1 8 k = w.2.1 8 k := fun k => hI1 8 k rfl
  have y1_7_3 : ∀ k, w1.2.1 102 k = w.2.1 102 k := fun k => hI1 102 k rfl
  have y1_7_4 : w1.2.1 1 1 = w.2.1 1 1 := hI1 1 1 rfl
  refine XW.fam (S' := (1626, [(3, .int i), (2, .ref 94), (1, .ref 0), (0, .retAddr 0)], [], w1)) (M := mr_371) rfl (show mcode 371 1625 = some (1625, .pop, 1, 0, 0, 0, _) from rfl) (Or.inr (Or.inr (Or.inr (Or.inr (Or.inr (Or.inl ⟨_, rfl, rfl⟩)))))) ?_
  refine XW.fam (S' := (1627, [(3, .int i), (2, .ref 94), (1, .ref 0), (0, .retAddr 0)], [.ref 94], w1)) (M := mr_371) rfl (show mcode 371 1626 = some (1626, .aload_n 2, 1, 0, 0, 0, _) from rfl) (Or.inl ⟨.ref 94, rfl, rfl⟩) ?_
  refine lw_ld (pc := 1627) (n := 1) rfl rfl rfl rfl rfl (by decide) hi0 hi1 hL ?_
  refine XW.call (d' := 41) (mc' := 0) (ms' := 0) (av := [.ref 94, .int (xs (i + Int32.ofInt 1).toNatClampNeg)]) (rest := []) (M := mr_371) (Ma := mr_337) rfl (show mcode 371 1632 = some (1632, .invokevirtual 182, 3, 337, 0, 0, _) from rfl) rfl (by decide) (by decide) ⟨rfl, 94, _, rfl, (iv_cell hw1).2⟩ rfl rfl (show _ ≤ 8 by decide) (kk_404 [.ref 94, .int (xs (i + Int32.ofInt 1).toNatClampNeg)] w1 hw1 ⟨rfl, any32 _, trivial⟩ (fun q hq => by cases hq) hf1) (by decide) (by omega) (by omega) (fun r2 w2 hQ2 => ?_)
  obtain ⟨hf2, hw2, hI2, ⟨x2, rfl, -, -⟩, -⟩ := hQ2
  have c2_0 : w2.2.1 1 1 = w1.2.1 1 1 := hI2 1 1 rfl
  have m2_0 : w2.2.1 94 2 = w1.2.1 94 2 := hI2 94 2 rfl
  have c2_1 : w2.2.1 1 0 = w1.2.1 1 0 := hI2 1 0 rfl
  have m2_1 : w2.2.1 94 1 = w1.2.1 94 1 := hI2 94 1 rfl
  have c2_2 : w2.2.1 41 0 = w1.2.1 41 0 := hI2 41 0 rfl
  have m2_2 : w2.2.1 94 34 = w1.2.1 94 34 := hI2 94 34 rfl
  have c2_3 : ∀ k, w2.2.1 42 k = w1.2.1 42 k := fun k => hI2 42 k rfl
  have m2_3 : ∀ k, w2.2.1 122 k = w1.2.1 122 k := fun k => hI2 122 k rfl
  have c2_4 : w2.2.1 47 3 = w1.2.1 47 3 := hI2 47 3 rfl
  have m2_4 : w2.2.1 94 35 = w1.2.1 94 35 := hI2 94 35 rfl
  have c2_5 : ∀ k, w2.2.1 48 k = w1.2.1 48 k := fun k => hI2 48 k rfl
  have m2_5 : ∀ k, w2.2.1 123 k = w1.2.1 123 k := fun k => hI2 123 k rfl
  have c2_6 : ∀ k, w2.2.1 49 k = w1.2.1 49 k := fun k => hI2 49 k rfl
  have m2_6 : ∀ k, w2.2.1 124 k = w1.2.1 124 k := fun k => hI2 124 k rfl
  have y2_7_0 : ∀ k, w2.2.1 5 k = w1.2.1 5 k := fun k => hI2 5 k rfl
  have y2_7_1 : ∀ k, w2.2.1 98 k = w1.2.1 98 k := fun k => hI2 98 k rfl
  have y2_7_2 : ∀ k, w2.2.1 8 k = w1.2.1 8 k := fun k => hI2 8 k rfl
  have y2_7_3 : ∀ k, w2.2.1 102 k = w1.2.1 102 k := fun k => hI2 102 k rfl
  have y2_7_4 : w2.2.1 1 1 = w1.2.1 1 1 := hI2 1 1 rfl
  refine XW.fam (S' := (1636, [(3, .int i), (2, .ref 94), (1, .ref 0), (0, .retAddr 0)], [], w2)) (M := mr_371) rfl (show mcode 371 1635 = some (1635, .pop, 1, 0, 0, 0, _) from rfl) (Or.inr (Or.inr (Or.inr (Or.inr (Or.inr (Or.inl ⟨_, rfl, rfl⟩)))))) ?_
  refine XW.fam (S' := (2217, [(3, .int i), (2, .ref 94), (1, .ref 0), (0, .retAddr 0)], [], w2)) (M := mr_371) rfl (show mcode 371 1636 = some (1636, .goto 581, 3, 2217, 0, 0, _) from rfl) (Or.inr (Or.inl ⟨2217, [], rfl, rfl⟩)) ?_
  exact XW.wid (mc := mc) (ms := ms) (by omega) (by omega) (K w2 ⟨hf2, ⟨_, _, hw2⟩, ⟨(c2_0.trans c1_0).trans (hv.1.trans (m1_0.symm.trans m2_0.symm)), (c2_1.trans c1_1).trans (hv.2.1.trans (m1_1.symm.trans m2_1.symm)), (c2_2.trans c1_2).trans (hv.2.2.1.trans (m1_2.symm.trans m2_2.symm)), fun k => ((c2_3 k).trans (c1_3 k)).trans ((hv.2.2.2.1 k).trans ((m1_3 k).symm.trans (m2_3 k).symm)), (c2_4.trans c1_4).trans (hv.2.2.2.2.1.trans (m1_4.symm.trans m2_4.symm)), fun k => ((c2_5 k).trans (c1_5 k)).trans ((hv.2.2.2.2.2.1 k).trans ((m1_5 k).symm.trans (m2_5 k).symm)), fun k => ((c2_6 k).trans (c1_6 k)).trans ((hv.2.2.2.2.2.2.1 k).trans ((m1_6 k).symm.trans (m2_6 k).symm)), RLf_keep (fun k => (y2_7_0 k).trans (y1_7_0 k)) (fun k => (y2_7_1 k).trans (y1_7_1 k)) (fun k => (y2_7_2 k).trans (y1_7_2 k)) (fun k => (y2_7_3 k).trans (y1_7_3 k)) (y2_7_4.trans y1_7_4) hv.2.2.2.2.2.2.2⟩⟩)
set_option maxRecDepth 100000 in
theorem case_41 {Ln : Nat} {xs : Nat → Int32} {mc ms : Nat} {w : mW} {i : Int32} (hi0 : 0 ≤ i.toInt) (hi1 : i.toInt + 6 ≤ Ln) (hL : Ln ≤ 3072) (hV : IV w) (K : ∀ w', IV w' → XW 371 mr_371 (some (Ln, xs)) 91 mc ms Qone (2217, [(3, .int i), (2, .ref 94), (1, .ref 0), (0, .retAddr 0)], [], w')) : XW 371 mr_371 (some (Ln, xs)) 91 (mc + 1) (ms + 240) Qone (1639, [(3, .int i), (2, .ref 94), (1, .ref 0), (0, .retAddr 0)], [], w) := by
  obtain ⟨hf, ⟨sh, R, hw⟩, hv⟩ := hV
  refine XW.fam (S' := (1640, [(3, .int i), (2, .ref 94), (1, .ref 0), (0, .retAddr 0)], [.ref 0], w)) (M := mr_371) rfl (show mcode 371 1639 = some (1639, .aload_n 1, 1, 0, 0, 0, _) from rfl) (Or.inl ⟨.ref 0, rfl, rfl⟩) ?_
  refine lw_ld (pc := 1640) (n := 1) rfl rfl rfl rfl rfl (by decide) hi0 hi1 hL ?_
  refine lw_ld (pc := 1645) (n := 2) rfl rfl rfl rfl rfl (by decide) hi0 hi1 hL ?_
  refine lw_ld (pc := 1650) (n := 3) rfl rfl rfl rfl rfl (by decide) hi0 hi1 hL ?_
  refine XW.call (d' := 42) (mc' := 0) (ms' := 0) (av := [.ref 0, .int (xs (i + Int32.ofInt 1).toNatClampNeg), .int (xs (i + Int32.ofInt 2).toNatClampNeg), .int (xs (i + Int32.ofInt 3).toNatClampNeg)]) (rest := []) (M := mr_371) (Ma := mr_190) rfl (show mcode 371 1655 = some (1655, .invokevirtual 183, 3, 190, 0, 0, _) from rfl) rfl (by decide) (by decide) ⟨rfl, 0, _, rfl, (iv_cell hw).1⟩ rfl rfl (show _ ≤ 8 by decide) (kk_199 [.ref 0, .int (xs (i + Int32.ofInt 1).toNatClampNeg), .int (xs (i + Int32.ofInt 2).toNatClampNeg), .int (xs (i + Int32.ofInt 3).toNatClampNeg)] w hw ⟨rfl, any32 _, any32 _, any32 _, trivial⟩ (fun q hq => by cases hq) hf) (by decide) (by omega) (by omega) (fun r1 w1 hQ1 => ?_)
  obtain ⟨hf1, hw1, hI1, ⟨x1, rfl, -, -⟩, -⟩ := hQ1
  have c1_0 : w1.2.1 1 1 = w.2.1 1 1 := hI1 1 1 rfl
  have m1_0 : w1.2.1 94 2 = w.2.1 94 2 := hI1 94 2 rfl
  have c1_1 : w1.2.1 1 0 = w.2.1 1 0 := hI1 1 0 rfl
  have m1_1 : w1.2.1 94 1 = w.2.1 94 1 := hI1 94 1 rfl
  have c1_2 : w1.2.1 41 0 = w.2.1 41 0 := hI1 41 0 rfl
  have m1_2 : w1.2.1 94 34 = w.2.1 94 34 := hI1 94 34 rfl
  have c1_3 : ∀ k, w1.2.1 42 k = w.2.1 42 k := fun k => hI1 42 k rfl
  have m1_3 : ∀ k, w1.2.1 122 k = w.2.1 122 k := fun k => hI1 122 k rfl
  have c1_4 : w1.2.1 47 3 = w.2.1 47 3 := hI1 47 3 rfl
  have m1_4 : w1.2.1 94 35 = w.2.1 94 35 := hI1 94 35 rfl
  have c1_5 : ∀ k, w1.2.1 48 k = w.2.1 48 k := fun k => hI1 48 k rfl
  have m1_5 : ∀ k, w1.2.1 123 k = w.2.1 123 k := fun k => hI1 123 k rfl
  have c1_6 : ∀ k, w1.2.1 49 k = w.2.1 49 k := fun k => hI1 49 k rfl
  have m1_6 : ∀ k, w1.2.1 124 k = w.2.1 124 k := fun k => hI1 124 k rfl
  have y1_7_0 : ∀ k, w1.2.1 5 k = w.2.1 5 k := fun k => hI1 5 k rfl
  have y1_7_1 : ∀ k, w1.2.1 98 k = w.2.1 98 k := fun k => hI1 98 k rfl
  have y1_7_2 : ∀ k, w1.2.1 8 k = w.2.1 8 k := fun k => hI1 8 k rfl
  have y1_7_3 : ∀ k, w1.2.1 102 k = w.2.1 102 k := fun k => hI1 102 k rfl
  have y1_7_4 : w1.2.1 1 1 = w.2.1 1 1 := hI1 1 1 rfl
  refine XW.fam (S' := (1659, [(3, .int i), (2, .ref 94), (1, .ref 0), (0, .retAddr 0)], [], w1)) (M := mr_371) rfl (show mcode 371 1658 = some (1658, .pop, 1, 0, 0, 0, _) from rfl) (Or.inr (Or.inr (Or.inr (Or.inr (Or.inr (Or.inl ⟨_, rfl, rfl⟩)))))) ?_
  refine XW.fam (S' := (1660, [(3, .int i), (2, .ref 94), (1, .ref 0), (0, .retAddr 0)], [.ref 94], w1)) (M := mr_371) rfl (show mcode 371 1659 = some (1659, .aload_n 2, 1, 0, 0, 0, _) from rfl) (Or.inl ⟨.ref 94, rfl, rfl⟩) ?_
  refine lw_ld (pc := 1660) (n := 1) rfl rfl rfl rfl rfl (by decide) hi0 hi1 hL ?_
  refine lw_ld (pc := 1665) (n := 2) rfl rfl rfl rfl rfl (by decide) hi0 hi1 hL ?_
  refine lw_ld (pc := 1670) (n := 3) rfl rfl rfl rfl rfl (by decide) hi0 hi1 hL ?_
  refine XW.call (d' := 41) (mc' := 0) (ms' := 0) (av := [.ref 94, .int (xs (i + Int32.ofInt 1).toNatClampNeg), .int (xs (i + Int32.ofInt 2).toNatClampNeg), .int (xs (i + Int32.ofInt 3).toNatClampNeg)]) (rest := []) (M := mr_371) (Ma := mr_338) rfl (show mcode 371 1675 = some (1675, .invokevirtual 186, 3, 338, 0, 0, _) from rfl) rfl (by decide) (by decide) ⟨rfl, 94, _, rfl, (iv_cell hw1).2⟩ rfl rfl (show _ ≤ 8 by decide) (kk_405 [.ref 94, .int (xs (i + Int32.ofInt 1).toNatClampNeg), .int (xs (i + Int32.ofInt 2).toNatClampNeg), .int (xs (i + Int32.ofInt 3).toNatClampNeg)] w1 hw1 ⟨rfl, any32 _, any32 _, any32 _, trivial⟩ (fun q hq => by cases hq) hf1) (by decide) (by omega) (by omega) (fun r2 w2 hQ2 => ?_)
  obtain ⟨hf2, hw2, hI2, ⟨x2, rfl, -, -⟩, -⟩ := hQ2
  have c2_0 : w2.2.1 1 1 = w1.2.1 1 1 := hI2 1 1 rfl
  have m2_0 : w2.2.1 94 2 = w1.2.1 94 2 := hI2 94 2 rfl
  have c2_1 : w2.2.1 1 0 = w1.2.1 1 0 := hI2 1 0 rfl
  have m2_1 : w2.2.1 94 1 = w1.2.1 94 1 := hI2 94 1 rfl
  have c2_2 : w2.2.1 41 0 = w1.2.1 41 0 := hI2 41 0 rfl
  have m2_2 : w2.2.1 94 34 = w1.2.1 94 34 := hI2 94 34 rfl
  have c2_3 : ∀ k, w2.2.1 42 k = w1.2.1 42 k := fun k => hI2 42 k rfl
  have m2_3 : ∀ k, w2.2.1 122 k = w1.2.1 122 k := fun k => hI2 122 k rfl
  have c2_4 : w2.2.1 47 3 = w1.2.1 47 3 := hI2 47 3 rfl
  have m2_4 : w2.2.1 94 35 = w1.2.1 94 35 := hI2 94 35 rfl
  have c2_5 : ∀ k, w2.2.1 48 k = w1.2.1 48 k := fun k => hI2 48 k rfl
  have m2_5 : ∀ k, w2.2.1 123 k = w1.2.1 123 k := fun k => hI2 123 k rfl
  have c2_6 : ∀ k, w2.2.1 49 k = w1.2.1 49 k := fun k => hI2 49 k rfl
  have m2_6 : ∀ k, w2.2.1 124 k = w1.2.1 124 k := fun k => hI2 124 k rfl
  have y2_7_0 : ∀ k, w2.2.1 5 k = w1.2.1 5 k := fun k => hI2 5 k rfl
  have y2_7_1 : ∀ k, w2.2.1 98 k = w1.2.1 98 k := fun k => hI2 98 k rfl
  have y2_7_2 : ∀ k, w2.2.1 8 k = w1.2.1 8 k := fun k => hI2 8 k rfl
  have y2_7_3 : ∀ k, w2.2.1 102 k = w1.2.1 102 k := fun k => hI2 102 k rfl
  have y2_7_4 : w2.2.1 1 1 = w1.2.1 1 1 := hI2 1 1 rfl
  refine XW.fam (S' := (1679, [(3, .int i), (2, .ref 94), (1, .ref 0), (0, .retAddr 0)], [], w2)) (M := mr_371) rfl (show mcode 371 1678 = some (1678, .pop, 1, 0, 0, 0, _) from rfl) (Or.inr (Or.inr (Or.inr (Or.inr (Or.inr (Or.inl ⟨_, rfl, rfl⟩)))))) ?_
  refine XW.fam (S' := (2217, [(3, .int i), (2, .ref 94), (1, .ref 0), (0, .retAddr 0)], [], w2)) (M := mr_371) rfl (show mcode 371 1679 = some (1679, .goto 538, 3, 2217, 0, 0, _) from rfl) (Or.inr (Or.inl ⟨2217, [], rfl, rfl⟩)) ?_
  exact XW.wid (mc := mc) (ms := ms) (by omega) (by omega) (K w2 ⟨hf2, ⟨_, _, hw2⟩, ⟨(c2_0.trans c1_0).trans (hv.1.trans (m1_0.symm.trans m2_0.symm)), (c2_1.trans c1_1).trans (hv.2.1.trans (m1_1.symm.trans m2_1.symm)), (c2_2.trans c1_2).trans (hv.2.2.1.trans (m1_2.symm.trans m2_2.symm)), fun k => ((c2_3 k).trans (c1_3 k)).trans ((hv.2.2.2.1 k).trans ((m1_3 k).symm.trans (m2_3 k).symm)), (c2_4.trans c1_4).trans (hv.2.2.2.2.1.trans (m1_4.symm.trans m2_4.symm)), fun k => ((c2_5 k).trans (c1_5 k)).trans ((hv.2.2.2.2.2.1 k).trans ((m1_5 k).symm.trans (m2_5 k).symm)), fun k => ((c2_6 k).trans (c1_6 k)).trans ((hv.2.2.2.2.2.2.1 k).trans ((m1_6 k).symm.trans (m2_6 k).symm)), RLf_keep (fun k => (y2_7_0 k).trans (y1_7_0 k)) (fun k => (y2_7_1 k).trans (y1_7_1 k)) (fun k => (y2_7_2 k).trans (y1_7_2 k)) (fun k => (y2_7_3 k).trans (y1_7_3 k)) (y2_7_4.trans y1_7_4) hv.2.2.2.2.2.2.2⟩⟩)
set_option maxRecDepth 100000 in
theorem case_42 {Ln : Nat} {xs : Nat → Int32} {mc ms : Nat} {w : mW} {i : Int32} (hi0 : 0 ≤ i.toInt) (hi1 : i.toInt + 6 ≤ Ln) (hL : Ln ≤ 3072) (hV : IV w) (K : ∀ w', IV w' → XW 371 mr_371 (some (Ln, xs)) 91 mc ms Qone (2217, [(3, .int i), (2, .ref 94), (1, .ref 0), (0, .retAddr 0)], [], w')) : XW 371 mr_371 (some (Ln, xs)) 91 (mc + 1) (ms + 240) Qone (1682, [(3, .int i), (2, .ref 94), (1, .ref 0), (0, .retAddr 0)], [], w) := by
  obtain ⟨hf, ⟨sh, R, hw⟩, hv⟩ := hV
  refine XW.fam (S' := (1683, [(3, .int i), (2, .ref 94), (1, .ref 0), (0, .retAddr 0)], [.ref 0], w)) (M := mr_371) rfl (show mcode 371 1682 = some (1682, .aload_n 1, 1, 0, 0, 0, _) from rfl) (Or.inl ⟨.ref 0, rfl, rfl⟩) ?_
  refine XW.call (d' := 44) (mc' := 0) (ms' := 0) (av := [.ref 0]) (rest := []) (M := mr_371) (Ma := mr_192) rfl (show mcode 371 1683 = some (1683, .invokevirtual 187, 3, 192, 0, 0, _) from rfl) rfl (by decide) (by decide) ⟨rfl, 0, _, rfl, (iv_cell hw).1⟩ rfl rfl (show _ ≤ 8 by decide) (kk_202 [.ref 0] w hw ⟨rfl, trivial⟩ (fun q hq => by cases hq) hf) (by decide) (by omega) (by omega) (fun r1 w1 hQ1 => ?_)
  obtain ⟨hf1, hw1, hI1, ⟨x1, rfl, -, -⟩, -⟩ := hQ1
  have c1_0 : w1.2.1 1 1 = w.2.1 1 1 := hI1 1 1 rfl
  have m1_0 : w1.2.1 94 2 = w.2.1 94 2 := hI1 94 2 rfl
  have c1_1 : w1.2.1 1 0 = w.2.1 1 0 := hI1 1 0 rfl
  have m1_1 : w1.2.1 94 1 = w.2.1 94 1 := hI1 94 1 rfl
  have c1_2 : w1.2.1 41 0 = w.2.1 41 0 := hI1 41 0 rfl
  have m1_2 : w1.2.1 94 34 = w.2.1 94 34 := hI1 94 34 rfl
  have c1_3 : ∀ k, w1.2.1 42 k = w.2.1 42 k := fun k => hI1 42 k rfl
  have m1_3 : ∀ k, w1.2.1 122 k = w.2.1 122 k := fun k => hI1 122 k rfl
  have c1_4 : w1.2.1 47 3 = w.2.1 47 3 := hI1 47 3 rfl
  have m1_4 : w1.2.1 94 35 = w.2.1 94 35 := hI1 94 35 rfl
  have c1_5 : ∀ k, w1.2.1 48 k = w.2.1 48 k := fun k => hI1 48 k rfl
  have m1_5 : ∀ k, w1.2.1 123 k = w.2.1 123 k := fun k => hI1 123 k rfl
  have c1_6 : ∀ k, w1.2.1 49 k = w.2.1 49 k := fun k => hI1 49 k rfl
  have m1_6 : ∀ k, w1.2.1 124 k = w.2.1 124 k := fun k => hI1 124 k rfl
  have y1_7_0 : ∀ k, w1.2.1 5 k = w.2.1 5 k := fun k => hI1 5 k rfl
  have y1_7_1 : ∀ k, w1.2.1 98 k = w.2.1 98 k := fun k => hI1 98 k rfl
  have y1_7_2 : ∀ k, w1.2.1 8 k = w.2.1 8 k := fun k => hI1 8 k rfl
  have y1_7_3 : ∀ k, w1.2.1 102 k = w.2.1 102 k := fun k => hI1 102 k rfl
  have y1_7_4 : w1.2.1 1 1 = w.2.1 1 1 := hI1 1 1 rfl
  refine XW.fam (S' := (1687, [(3, .int i), (2, .ref 94), (1, .ref 0), (0, .retAddr 0)], [], w1)) (M := mr_371) rfl (show mcode 371 1686 = some (1686, .pop, 1, 0, 0, 0, _) from rfl) (Or.inr (Or.inr (Or.inr (Or.inr (Or.inr (Or.inl ⟨_, rfl, rfl⟩)))))) ?_
  refine XW.fam (S' := (1688, [(3, .int i), (2, .ref 94), (1, .ref 0), (0, .retAddr 0)], [.ref 94], w1)) (M := mr_371) rfl (show mcode 371 1687 = some (1687, .aload_n 2, 1, 0, 0, 0, _) from rfl) (Or.inl ⟨.ref 94, rfl, rfl⟩) ?_
  refine XW.call (d' := 50) (mc' := 0) (ms' := 0) (av := [.ref 94]) (rest := []) (M := mr_371) (Ma := mr_339) rfl (show mcode 371 1688 = some (1688, .invokevirtual 190, 3, 339, 0, 0, _) from rfl) rfl (by decide) (by decide) ⟨rfl, 94, _, rfl, (iv_cell hw1).2⟩ rfl rfl (show _ ≤ 8 by decide) (kk_415 [.ref 94] w1 hw1 ⟨rfl, trivial⟩ (fun q hq => by cases hq) hf1) (by decide) (by omega) (by omega) (fun r2 w2 hQ2 => ?_)
  obtain ⟨hf2, hw2, hI2, ⟨x2, rfl, -, -⟩, -⟩ := hQ2
  have c2_0 : w2.2.1 1 1 = w1.2.1 1 1 := hI2 1 1 rfl
  have m2_0 : w2.2.1 94 2 = w1.2.1 94 2 := hI2 94 2 rfl
  have c2_1 : w2.2.1 1 0 = w1.2.1 1 0 := hI2 1 0 rfl
  have m2_1 : w2.2.1 94 1 = w1.2.1 94 1 := hI2 94 1 rfl
  have c2_2 : w2.2.1 41 0 = w1.2.1 41 0 := hI2 41 0 rfl
  have m2_2 : w2.2.1 94 34 = w1.2.1 94 34 := hI2 94 34 rfl
  have c2_3 : ∀ k, w2.2.1 42 k = w1.2.1 42 k := fun k => hI2 42 k rfl
  have m2_3 : ∀ k, w2.2.1 122 k = w1.2.1 122 k := fun k => hI2 122 k rfl
  have c2_4 : w2.2.1 47 3 = w1.2.1 47 3 := hI2 47 3 rfl
  have m2_4 : w2.2.1 94 35 = w1.2.1 94 35 := hI2 94 35 rfl
  have c2_5 : ∀ k, w2.2.1 48 k = w1.2.1 48 k := fun k => hI2 48 k rfl
  have m2_5 : ∀ k, w2.2.1 123 k = w1.2.1 123 k := fun k => hI2 123 k rfl
  have c2_6 : ∀ k, w2.2.1 49 k = w1.2.1 49 k := fun k => hI2 49 k rfl
  have m2_6 : ∀ k, w2.2.1 124 k = w1.2.1 124 k := fun k => hI2 124 k rfl
  have y2_7_0 : ∀ k, w2.2.1 5 k = w1.2.1 5 k := fun k => hI2 5 k rfl
  have y2_7_1 : ∀ k, w2.2.1 98 k = w1.2.1 98 k := fun k => hI2 98 k rfl
  have y2_7_2 : ∀ k, w2.2.1 8 k = w1.2.1 8 k := fun k => hI2 8 k rfl
  have y2_7_3 : ∀ k, w2.2.1 102 k = w1.2.1 102 k := fun k => hI2 102 k rfl
  have y2_7_4 : w2.2.1 1 1 = w1.2.1 1 1 := hI2 1 1 rfl
  refine XW.fam (S' := (1692, [(3, .int i), (2, .ref 94), (1, .ref 0), (0, .retAddr 0)], [], w2)) (M := mr_371) rfl (show mcode 371 1691 = some (1691, .pop, 1, 0, 0, 0, _) from rfl) (Or.inr (Or.inr (Or.inr (Or.inr (Or.inr (Or.inl ⟨_, rfl, rfl⟩)))))) ?_
  refine XW.fam (S' := (2217, [(3, .int i), (2, .ref 94), (1, .ref 0), (0, .retAddr 0)], [], w2)) (M := mr_371) rfl (show mcode 371 1692 = some (1692, .goto 525, 3, 2217, 0, 0, _) from rfl) (Or.inr (Or.inl ⟨2217, [], rfl, rfl⟩)) ?_
  exact XW.wid (mc := mc) (ms := ms) (by omega) (by omega) (K w2 ⟨hf2, ⟨_, _, hw2⟩, ⟨(c2_0.trans c1_0).trans (hv.1.trans (m1_0.symm.trans m2_0.symm)), (c2_1.trans c1_1).trans (hv.2.1.trans (m1_1.symm.trans m2_1.symm)), (c2_2.trans c1_2).trans (hv.2.2.1.trans (m1_2.symm.trans m2_2.symm)), fun k => ((c2_3 k).trans (c1_3 k)).trans ((hv.2.2.2.1 k).trans ((m1_3 k).symm.trans (m2_3 k).symm)), (c2_4.trans c1_4).trans (hv.2.2.2.2.1.trans (m1_4.symm.trans m2_4.symm)), fun k => ((c2_5 k).trans (c1_5 k)).trans ((hv.2.2.2.2.2.1 k).trans ((m1_5 k).symm.trans (m2_5 k).symm)), fun k => ((c2_6 k).trans (c1_6 k)).trans ((hv.2.2.2.2.2.2.1 k).trans ((m1_6 k).symm.trans (m2_6 k).symm)), RLf_keep (fun k => (y2_7_0 k).trans (y1_7_0 k)) (fun k => (y2_7_1 k).trans (y1_7_1 k)) (fun k => (y2_7_2 k).trans (y1_7_2 k)) (fun k => (y2_7_3 k).trans (y1_7_3 k)) (y2_7_4.trans y1_7_4) hv.2.2.2.2.2.2.2⟩⟩)
set_option maxRecDepth 100000 in
theorem case_43 {Ln : Nat} {xs : Nat → Int32} {mc ms : Nat} {w : mW} {i : Int32} (hi0 : 0 ≤ i.toInt) (hi1 : i.toInt + 6 ≤ Ln) (hL : Ln ≤ 3072) (hV : IV w) (K : ∀ w', IV w' → XW 371 mr_371 (some (Ln, xs)) 91 mc ms Qone (2217, [(3, .int i), (2, .ref 94), (1, .ref 0), (0, .retAddr 0)], [], w')) : XW 371 mr_371 (some (Ln, xs)) 91 (mc + 1) (ms + 240) Qone (1695, [(3, .int i), (2, .ref 94), (1, .ref 0), (0, .retAddr 0)], [], w) := by
  obtain ⟨hf, ⟨sh, R, hw⟩, hv⟩ := hV
  refine XW.fam (S' := (1696, [(3, .int i), (2, .ref 94), (1, .ref 0), (0, .retAddr 0)], [.ref 0], w)) (M := mr_371) rfl (show mcode 371 1695 = some (1695, .aload_n 1, 1, 0, 0, 0, _) from rfl) (Or.inl ⟨.ref 0, rfl, rfl⟩) ?_
  refine lw_ld (pc := 1696) (n := 1) rfl rfl rfl rfl rfl (by decide) hi0 hi1 hL ?_
  refine XW.call (d' := 41) (mc' := 0) (ms' := 0) (av := [.ref 0, .int (xs (i + Int32.ofInt 1).toNatClampNeg)]) (rest := []) (M := mr_371) (Ma := mr_198) rfl (show mcode 371 1701 = some (1701, .invokevirtual 191, 3, 198, 0, 0, _) from rfl) rfl (by decide) (by decide) ⟨rfl, 0, _, rfl, (iv_cell hw).1⟩ rfl rfl (show _ ≤ 8 by decide) (kk_203 [.ref 0, .int (xs (i + Int32.ofInt 1).toNatClampNeg)] w hw ⟨rfl, any32 _, trivial⟩ (fun q hq => by cases hq) hf) (by decide) (by omega) (by omega) (fun r1 w1 hQ1 => ?_)
  obtain ⟨hf1, hw1, hI1, ⟨x1, rfl, -, -⟩, -⟩ := hQ1
  have c1_0 : w1.2.1 1 1 = w.2.1 1 1 := hI1 1 1 rfl
  have m1_0 : w1.2.1 94 2 = w.2.1 94 2 := hI1 94 2 rfl
  have c1_1 : w1.2.1 1 0 = w.2.1 1 0 := hI1 1 0 rfl
  have m1_1 : w1.2.1 94 1 = w.2.1 94 1 := hI1 94 1 rfl
  have c1_2 : w1.2.1 41 0 = w.2.1 41 0 := hI1 41 0 rfl
  have m1_2 : w1.2.1 94 34 = w.2.1 94 34 := hI1 94 34 rfl
  have c1_3 : ∀ k, w1.2.1 42 k = w.2.1 42 k := fun k => hI1 42 k rfl
  have m1_3 : ∀ k, w1.2.1 122 k = w.2.1 122 k := fun k => hI1 122 k rfl
  have c1_4 : w1.2.1 47 3 = w.2.1 47 3 := hI1 47 3 rfl
  have m1_4 : w1.2.1 94 35 = w.2.1 94 35 := hI1 94 35 rfl
  have c1_5 : ∀ k, w1.2.1 48 k = w.2.1 48 k := fun k => hI1 48 k rfl
  have m1_5 : ∀ k, w1.2.1 123 k = w.2.1 123 k := fun k => hI1 123 k rfl
  have c1_6 : ∀ k, w1.2.1 49 k = w.2.1 49 k := fun k => hI1 49 k rfl
  have m1_6 : ∀ k, w1.2.1 124 k = w.2.1 124 k := fun k => hI1 124 k rfl
  have y1_7_0 : ∀ k, w1.2.1 5 k = w.2.1 5 k := fun k => hI1 5 k rfl
  have y1_7_1 : ∀ k, w1.2.1 98 k = w.2.1 98 k := fun k => hI1 98 k rfl
  have y1_7_2 : ∀ k, w1.2.1 8 k = w.2.1 8 k := fun k => hI1 8 k rfl
  have y1_7_3 : ∀ k, w1.2.1 102 k = w.2.1 102 k := fun k => hI1 102 k rfl
  have y1_7_4 : w1.2.1 1 1 = w.2.1 1 1 := hI1 1 1 rfl
  refine XW.fam (S' := (1705, [(3, .int i), (2, .ref 94), (1, .ref 0), (0, .retAddr 0)], [], w1)) (M := mr_371) rfl (show mcode 371 1704 = some (1704, .pop, 1, 0, 0, 0, _) from rfl) (Or.inr (Or.inr (Or.inr (Or.inr (Or.inr (Or.inl ⟨_, rfl, rfl⟩)))))) ?_
  refine XW.fam (S' := (1706, [(3, .int i), (2, .ref 94), (1, .ref 0), (0, .retAddr 0)], [.ref 94], w1)) (M := mr_371) rfl (show mcode 371 1705 = some (1705, .aload_n 2, 1, 0, 0, 0, _) from rfl) (Or.inl ⟨.ref 94, rfl, rfl⟩) ?_
  refine lw_ld (pc := 1706) (n := 1) rfl rfl rfl rfl rfl (by decide) hi0 hi1 hL ?_
  refine XW.call (d' := 41) (mc' := 0) (ms' := 0) (av := [.ref 94, .int (xs (i + Int32.ofInt 1).toNatClampNeg)]) (rest := []) (M := mr_371) (Ma := mr_341) rfl (show mcode 371 1711 = some (1711, .invokevirtual 194, 3, 341, 0, 0, _) from rfl) rfl (by decide) (by decide) ⟨rfl, 94, _, rfl, (iv_cell hw1).2⟩ rfl rfl (show _ ≤ 8 by decide) (kk_416 [.ref 94, .int (xs (i + Int32.ofInt 1).toNatClampNeg)] w1 hw1 ⟨rfl, any32 _, trivial⟩ (fun q hq => by cases hq) hf1) (by decide) (by omega) (by omega) (fun r2 w2 hQ2 => ?_)
  obtain ⟨hf2, hw2, hI2, ⟨x2, rfl, -, -⟩, -⟩ := hQ2
  have c2_0 : w2.2.1 1 1 = w1.2.1 1 1 := hI2 1 1 rfl
  have m2_0 : w2.2.1 94 2 = w1.2.1 94 2 := hI2 94 2 rfl
  have c2_1 : w2.2.1 1 0 = w1.2.1 1 0 := hI2 1 0 rfl
  have m2_1 : w2.2.1 94 1 = w1.2.1 94 1 := hI2 94 1 rfl
  have c2_2 : w2.2.1 41 0 = w1.2.1 41 0 := hI2 41 0 rfl
  have m2_2 : w2.2.1 94 34 = w1.2.1 94 34 := hI2 94 34 rfl
  have c2_3 : ∀ k, w2.2.1 42 k = w1.2.1 42 k := fun k => hI2 42 k rfl
  have m2_3 : ∀ k, w2.2.1 122 k = w1.2.1 122 k := fun k => hI2 122 k rfl
  have c2_4 : w2.2.1 47 3 = w1.2.1 47 3 := hI2 47 3 rfl
  have m2_4 : w2.2.1 94 35 = w1.2.1 94 35 := hI2 94 35 rfl
  have c2_5 : ∀ k, w2.2.1 48 k = w1.2.1 48 k := fun k => hI2 48 k rfl
  have m2_5 : ∀ k, w2.2.1 123 k = w1.2.1 123 k := fun k => hI2 123 k rfl
  have c2_6 : ∀ k, w2.2.1 49 k = w1.2.1 49 k := fun k => hI2 49 k rfl
  have m2_6 : ∀ k, w2.2.1 124 k = w1.2.1 124 k := fun k => hI2 124 k rfl
  have y2_7_0 : ∀ k, w2.2.1 5 k = w1.2.1 5 k := fun k => hI2 5 k rfl
  have y2_7_1 : ∀ k, w2.2.1 98 k = w1.2.1 98 k := fun k => hI2 98 k rfl
  have y2_7_2 : ∀ k, w2.2.1 8 k = w1.2.1 8 k := fun k => hI2 8 k rfl
  have y2_7_3 : ∀ k, w2.2.1 102 k = w1.2.1 102 k := fun k => hI2 102 k rfl
  have y2_7_4 : w2.2.1 1 1 = w1.2.1 1 1 := hI2 1 1 rfl
  refine XW.fam (S' := (1715, [(3, .int i), (2, .ref 94), (1, .ref 0), (0, .retAddr 0)], [], w2)) (M := mr_371) rfl (show mcode 371 1714 = some (1714, .pop, 1, 0, 0, 0, _) from rfl) (Or.inr (Or.inr (Or.inr (Or.inr (Or.inr (Or.inl ⟨_, rfl, rfl⟩)))))) ?_
  refine XW.fam (S' := (2217, [(3, .int i), (2, .ref 94), (1, .ref 0), (0, .retAddr 0)], [], w2)) (M := mr_371) rfl (show mcode 371 1715 = some (1715, .goto 502, 3, 2217, 0, 0, _) from rfl) (Or.inr (Or.inl ⟨2217, [], rfl, rfl⟩)) ?_
  exact XW.wid (mc := mc) (ms := ms) (by omega) (by omega) (K w2 ⟨hf2, ⟨_, _, hw2⟩, ⟨(c2_0.trans c1_0).trans (hv.1.trans (m1_0.symm.trans m2_0.symm)), (c2_1.trans c1_1).trans (hv.2.1.trans (m1_1.symm.trans m2_1.symm)), (c2_2.trans c1_2).trans (hv.2.2.1.trans (m1_2.symm.trans m2_2.symm)), fun k => ((c2_3 k).trans (c1_3 k)).trans ((hv.2.2.2.1 k).trans ((m1_3 k).symm.trans (m2_3 k).symm)), (c2_4.trans c1_4).trans (hv.2.2.2.2.1.trans (m1_4.symm.trans m2_4.symm)), fun k => ((c2_5 k).trans (c1_5 k)).trans ((hv.2.2.2.2.2.1 k).trans ((m1_5 k).symm.trans (m2_5 k).symm)), fun k => ((c2_6 k).trans (c1_6 k)).trans ((hv.2.2.2.2.2.2.1 k).trans ((m1_6 k).symm.trans (m2_6 k).symm)), RLf_keep (fun k => (y2_7_0 k).trans (y1_7_0 k)) (fun k => (y2_7_1 k).trans (y1_7_1 k)) (fun k => (y2_7_2 k).trans (y1_7_2 k)) (fun k => (y2_7_3 k).trans (y1_7_3 k)) (y2_7_4.trans y1_7_4) hv.2.2.2.2.2.2.2⟩⟩)
set_option maxRecDepth 100000 in
theorem case_44 {Ln : Nat} {xs : Nat → Int32} {mc ms : Nat} {w : mW} {i : Int32} (hi0 : 0 ≤ i.toInt) (hi1 : i.toInt + 6 ≤ Ln) (hL : Ln ≤ 3072) (hV : IV w) (K : ∀ w', IV w' → XW 371 mr_371 (some (Ln, xs)) 91 mc ms Qone (2217, [(3, .int i), (2, .ref 94), (1, .ref 0), (0, .retAddr 0)], [], w')) : XW 371 mr_371 (some (Ln, xs)) 91 (mc + 1) (ms + 240) Qone (1718, [(3, .int i), (2, .ref 94), (1, .ref 0), (0, .retAddr 0)], [], w) := by
  obtain ⟨hf, ⟨sh, R, hw⟩, hv⟩ := hV
  refine XW.fam (S' := (1719, [(3, .int i), (2, .ref 94), (1, .ref 0), (0, .retAddr 0)], [.ref 0], w)) (M := mr_371) rfl (show mcode 371 1718 = some (1718, .aload_n 1, 1, 0, 0, 0, _) from rfl) (Or.inl ⟨.ref 0, rfl, rfl⟩) ?_
  refine lw_ld (pc := 1719) (n := 1) rfl rfl rfl rfl rfl (by decide) hi0 hi1 hL ?_
  refine lw_ld (pc := 1724) (n := 2) rfl rfl rfl rfl rfl (by decide) hi0 hi1 hL ?_
  refine XW.call (d' := 41) (mc' := 0) (ms' := 0) (av := [.ref 0, .int (xs (i + Int32.ofInt 1).toNatClampNeg), .int (xs (i + Int32.ofInt 2).toNatClampNeg)]) (rest := []) (M := mr_371) (Ma := mr_200) rfl (show mcode 371 1729 = some (1729, .invokevirtual 195, 3, 200, 0, 0, _) from rfl) rfl (by decide) (by decide) ⟨rfl, 0, _, rfl, (iv_cell hw).1⟩ rfl rfl (show _ ≤ 8 by decide) (kk_204 [.ref 0, .int (xs (i + Int32.ofInt 1).toNatClampNeg), .int (xs (i + Int32.ofInt 2).toNatClampNeg)] w hw ⟨rfl, any32 _, any32 _, trivial⟩ (fun q hq => by cases hq) hf) (by decide) (by omega) (by omega) (fun r1 w1 hQ1 => ?_)
  obtain ⟨hf1, hw1, hI1, ⟨x1, rfl, -, -⟩, -⟩ := hQ1
  have c1_0 : w1.2.1 1 1 = w.2.1 1 1 := hI1 1 1 rfl
  have m1_0 : w1.2.1 94 2 = w.2.1 94 2 := hI1 94 2 rfl
  have c1_1 : w1.2.1 1 0 = w.2.1 1 0 := hI1 1 0 rfl
  have m1_1 : w1.2.1 94 1 = w.2.1 94 1 := hI1 94 1 rfl
  have c1_2 : w1.2.1 41 0 = w.2.1 41 0 := hI1 41 0 rfl
  have m1_2 : w1.2.1 94 34 = w.2.1 94 34 := hI1 94 34 rfl
  have c1_3 : ∀ k, w1.2.1 42 k = w.2.1 42 k := fun k => hI1 42 k rfl
  have m1_3 : ∀ k, w1.2.1 122 k = w.2.1 122 k := fun k => hI1 122 k rfl
  have c1_4 : w1.2.1 47 3 = w.2.1 47 3 := hI1 47 3 rfl
  have m1_4 : w1.2.1 94 35 = w.2.1 94 35 := hI1 94 35 rfl
  have c1_5 : ∀ k, w1.2.1 48 k = w.2.1 48 k := fun k => hI1 48 k rfl
  have m1_5 : ∀ k, w1.2.1 123 k = w.2.1 123 k := fun k => hI1 123 k rfl
  have c1_6 : ∀ k, w1.2.1 49 k = w.2.1 49 k := fun k => hI1 49 k rfl
  have m1_6 : ∀ k, w1.2.1 124 k = w.2.1 124 k := fun k => hI1 124 k rfl
  have y1_7_0 : ∀ k, w1.2.1 5 k = w.2.1 5 k := fun k => hI1 5 k rfl
  have y1_7_1 : ∀ k, w1.2.1 98 k = w.2.1 98 k := fun k => hI1 98 k rfl
  have y1_7_2 : ∀ k, w1.2.1 8 k = w.2.1 8 k := fun k => hI1 8 k rfl
  have y1_7_3 : ∀ k, w1.2.1 102 k = w.2.1 102 k := fun k => hI1 102 k rfl
  have y1_7_4 : w1.2.1 1 1 = w.2.1 1 1 := hI1 1 1 rfl
  refine XW.fam (S' := (1733, [(3, .int i), (2, .ref 94), (1, .ref 0), (0, .retAddr 0)], [], w1)) (M := mr_371) rfl (show mcode 371 1732 = some (1732, .pop, 1, 0, 0, 0, _) from rfl) (Or.inr (Or.inr (Or.inr (Or.inr (Or.inr (Or.inl ⟨_, rfl, rfl⟩)))))) ?_
  refine XW.fam (S' := (1734, [(3, .int i), (2, .ref 94), (1, .ref 0), (0, .retAddr 0)], [.ref 94], w1)) (M := mr_371) rfl (show mcode 371 1733 = some (1733, .aload_n 2, 1, 0, 0, 0, _) from rfl) (Or.inl ⟨.ref 94, rfl, rfl⟩) ?_
  refine lw_ld (pc := 1734) (n := 1) rfl rfl rfl rfl rfl (by decide) hi0 hi1 hL ?_
  refine lw_ld (pc := 1739) (n := 2) rfl rfl rfl rfl rfl (by decide) hi0 hi1 hL ?_
  refine XW.call (d' := 41) (mc' := 0) (ms' := 0) (av := [.ref 94, .int (xs (i + Int32.ofInt 1).toNatClampNeg), .int (xs (i + Int32.ofInt 2).toNatClampNeg)]) (rest := []) (M := mr_371) (Ma := mr_342) rfl (show mcode 371 1744 = some (1744, .invokevirtual 198, 3, 342, 0, 0, _) from rfl) rfl (by decide) (by decide) ⟨rfl, 94, _, rfl, (iv_cell hw1).2⟩ rfl rfl (show _ ≤ 8 by decide) (kk_417 [.ref 94, .int (xs (i + Int32.ofInt 1).toNatClampNeg), .int (xs (i + Int32.ofInt 2).toNatClampNeg)] w1 hw1 ⟨rfl, any32 _, any32 _, trivial⟩ (fun q hq => by cases hq) hf1) (by decide) (by omega) (by omega) (fun r2 w2 hQ2 => ?_)
  obtain ⟨hf2, hw2, hI2, ⟨x2, rfl, -, -⟩, -⟩ := hQ2
  have c2_0 : w2.2.1 1 1 = w1.2.1 1 1 := hI2 1 1 rfl
  have m2_0 : w2.2.1 94 2 = w1.2.1 94 2 := hI2 94 2 rfl
  have c2_1 : w2.2.1 1 0 = w1.2.1 1 0 := hI2 1 0 rfl
  have m2_1 : w2.2.1 94 1 = w1.2.1 94 1 := hI2 94 1 rfl
  have c2_2 : w2.2.1 41 0 = w1.2.1 41 0 := hI2 41 0 rfl
  have m2_2 : w2.2.1 94 34 = w1.2.1 94 34 := hI2 94 34 rfl
  have c2_3 : ∀ k, w2.2.1 42 k = w1.2.1 42 k := fun k => hI2 42 k rfl
  have m2_3 : ∀ k, w2.2.1 122 k = w1.2.1 122 k := fun k => hI2 122 k rfl
  have c2_4 : w2.2.1 47 3 = w1.2.1 47 3 := hI2 47 3 rfl
  have m2_4 : w2.2.1 94 35 = w1.2.1 94 35 := hI2 94 35 rfl
  have c2_5 : ∀ k, w2.2.1 48 k = w1.2.1 48 k := fun k => hI2 48 k rfl
  have m2_5 : ∀ k, w2.2.1 123 k = w1.2.1 123 k := fun k => hI2 123 k rfl
  have c2_6 : ∀ k, w2.2.1 49 k = w1.2.1 49 k := fun k => hI2 49 k rfl
  have m2_6 : ∀ k, w2.2.1 124 k = w1.2.1 124 k := fun k => hI2 124 k rfl
  have y2_7_0 : ∀ k, w2.2.1 5 k = w1.2.1 5 k := fun k => hI2 5 k rfl
  have y2_7_1 : ∀ k, w2.2.1 98 k = w1.2.1 98 k := fun k => hI2 98 k rfl
  have y2_7_2 : ∀ k, w2.2.1 8 k = w1.2.1 8 k := fun k => hI2 8 k rfl
  have y2_7_3 : ∀ k, w2.2.1 102 k = w1.2.1 102 k := fun k => hI2 102 k rfl
  have y2_7_4 : w2.2.1 1 1 = w1.2.1 1 1 := hI2 1 1 rfl
  refine XW.fam (S' := (1748, [(3, .int i), (2, .ref 94), (1, .ref 0), (0, .retAddr 0)], [], w2)) (M := mr_371) rfl (show mcode 371 1747 = some (1747, .pop, 1, 0, 0, 0, _) from rfl) (Or.inr (Or.inr (Or.inr (Or.inr (Or.inr (Or.inl ⟨_, rfl, rfl⟩)))))) ?_
  refine XW.fam (S' := (2217, [(3, .int i), (2, .ref 94), (1, .ref 0), (0, .retAddr 0)], [], w2)) (M := mr_371) rfl (show mcode 371 1748 = some (1748, .goto 469, 3, 2217, 0, 0, _) from rfl) (Or.inr (Or.inl ⟨2217, [], rfl, rfl⟩)) ?_
  exact XW.wid (mc := mc) (ms := ms) (by omega) (by omega) (K w2 ⟨hf2, ⟨_, _, hw2⟩, ⟨(c2_0.trans c1_0).trans (hv.1.trans (m1_0.symm.trans m2_0.symm)), (c2_1.trans c1_1).trans (hv.2.1.trans (m1_1.symm.trans m2_1.symm)), (c2_2.trans c1_2).trans (hv.2.2.1.trans (m1_2.symm.trans m2_2.symm)), fun k => ((c2_3 k).trans (c1_3 k)).trans ((hv.2.2.2.1 k).trans ((m1_3 k).symm.trans (m2_3 k).symm)), (c2_4.trans c1_4).trans (hv.2.2.2.2.1.trans (m1_4.symm.trans m2_4.symm)), fun k => ((c2_5 k).trans (c1_5 k)).trans ((hv.2.2.2.2.2.1 k).trans ((m1_5 k).symm.trans (m2_5 k).symm)), fun k => ((c2_6 k).trans (c1_6 k)).trans ((hv.2.2.2.2.2.2.1 k).trans ((m1_6 k).symm.trans (m2_6 k).symm)), RLf_keep (fun k => (y2_7_0 k).trans (y1_7_0 k)) (fun k => (y2_7_1 k).trans (y1_7_1 k)) (fun k => (y2_7_2 k).trans (y1_7_2 k)) (fun k => (y2_7_3 k).trans (y1_7_3 k)) (y2_7_4.trans y1_7_4) hv.2.2.2.2.2.2.2⟩⟩)
set_option maxRecDepth 100000 in
theorem case_45 {Ln : Nat} {xs : Nat → Int32} {mc ms : Nat} {w : mW} {i : Int32} (hi0 : 0 ≤ i.toInt) (hi1 : i.toInt + 6 ≤ Ln) (hL : Ln ≤ 3072) (hV : IV w) (K : ∀ w', IV w' → XW 371 mr_371 (some (Ln, xs)) 91 mc ms Qone (2217, [(3, .int i), (2, .ref 94), (1, .ref 0), (0, .retAddr 0)], [], w')) : XW 371 mr_371 (some (Ln, xs)) 91 (mc + 1) (ms + 240) Qone (1751, [(3, .int i), (2, .ref 94), (1, .ref 0), (0, .retAddr 0)], [], w) := by
  obtain ⟨hf, ⟨sh, R, hw⟩, hv⟩ := hV
  refine XW.fam (S' := (1752, [(3, .int i), (2, .ref 94), (1, .ref 0), (0, .retAddr 0)], [.ref 0], w)) (M := mr_371) rfl (show mcode 371 1751 = some (1751, .aload_n 1, 1, 0, 0, 0, _) from rfl) (Or.inl ⟨.ref 0, rfl, rfl⟩) ?_
  refine lw_ld (pc := 1752) (n := 1) rfl rfl rfl rfl rfl (by decide) hi0 hi1 hL ?_
  refine lw_ld (pc := 1757) (n := 2) rfl rfl rfl rfl rfl (by decide) hi0 hi1 hL ?_
  refine lw_ld (pc := 1762) (n := 3) rfl rfl rfl rfl rfl (by decide) hi0 hi1 hL ?_
  refine XW.call (d' := 41) (mc' := 0) (ms' := 0) (av := [.ref 0, .int (xs (i + Int32.ofInt 1).toNatClampNeg), .int (xs (i + Int32.ofInt 2).toNatClampNeg), .int (xs (i + Int32.ofInt 3).toNatClampNeg)]) (rest := []) (M := mr_371) (Ma := mr_202) rfl (show mcode 371 1767 = some (1767, .invokevirtual 199, 3, 202, 0, 0, _) from rfl) rfl (by decide) (by decide) ⟨rfl, 0, _, rfl, (iv_cell hw).1⟩ rfl rfl (show _ ≤ 8 by decide) (kk_205 [.ref 0, .int (xs (i + Int32.ofInt 1).toNatClampNeg), .int (xs (i + Int32.ofInt 2).toNatClampNeg), .int (xs (i + Int32.ofInt 3).toNatClampNeg)] w hw ⟨rfl, any32 _, any32 _, any32 _, trivial⟩ (fun q hq => by cases hq) hf) (by decide) (by omega) (by omega) (fun r1 w1 hQ1 => ?_)
  obtain ⟨hf1, hw1, hI1, ⟨x1, rfl, -, -⟩, -⟩ := hQ1
  have c1_0 : w1.2.1 1 1 = w.2.1 1 1 := hI1 1 1 rfl
  have m1_0 : w1.2.1 94 2 = w.2.1 94 2 := hI1 94 2 rfl
  have c1_1 : w1.2.1 1 0 = w.2.1 1 0 := hI1 1 0 rfl
  have m1_1 : w1.2.1 94 1 = w.2.1 94 1 := hI1 94 1 rfl
  have c1_2 : w1.2.1 41 0 = w.2.1 41 0 := hI1 41 0 rfl
  have m1_2 : w1.2.1 94 34 = w.2.1 94 34 := hI1 94 34 rfl
  have c1_3 : ∀ k, w1.2.1 42 k = w.2.1 42 k := fun k => hI1 42 k rfl
  have m1_3 : ∀ k, w1.2.1 122 k = w.2.1 122 k := fun k => hI1 122 k rfl
  have c1_4 : w1.2.1 47 3 = w.2.1 47 3 := hI1 47 3 rfl
  have m1_4 : w1.2.1 94 35 = w.2.1 94 35 := hI1 94 35 rfl
  have c1_5 : ∀ k, w1.2.1 48 k = w.2.1 48 k := fun k => hI1 48 k rfl
  have m1_5 : ∀ k, w1.2.1 123 k = w.2.1 123 k := fun k => hI1 123 k rfl
  have c1_6 : ∀ k, w1.2.1 49 k = w.2.1 49 k := fun k => hI1 49 k rfl
  have m1_6 : ∀ k, w1.2.1 124 k = w.2.1 124 k := fun k => hI1 124 k rfl
  have y1_7_0 : ∀ k, w1.2.1 5 k = w.2.1 5 k := fun k => hI1 5 k rfl
  have y1_7_1 : ∀ k, w1.2.1 98 k = w.2.1 98 k := fun k => hI1 98 k rfl
  have y1_7_2 : ∀ k, w1.2.1 8 k = w.2.1 8 k := fun k => hI1 8 k rfl
  have y1_7_3 : ∀ k, w1.2.1 102 k = w.2.1 102 k := fun k => hI1 102 k rfl
  have y1_7_4 : w1.2.1 1 1 = w.2.1 1 1 := hI1 1 1 rfl
  refine XW.fam (S' := (1771, [(3, .int i), (2, .ref 94), (1, .ref 0), (0, .retAddr 0)], [], w1)) (M := mr_371) rfl (show mcode 371 1770 = some (1770, .pop, 1, 0, 0, 0, _) from rfl) (Or.inr (Or.inr (Or.inr (Or.inr (Or.inr (Or.inl ⟨_, rfl, rfl⟩)))))) ?_
  refine XW.fam (S' := (1772, [(3, .int i), (2, .ref 94), (1, .ref 0), (0, .retAddr 0)], [.ref 94], w1)) (M := mr_371) rfl (show mcode 371 1771 = some (1771, .aload_n 2, 1, 0, 0, 0, _) from rfl) (Or.inl ⟨.ref 94, rfl, rfl⟩) ?_
  refine lw_ld (pc := 1772) (n := 1) rfl rfl rfl rfl rfl (by decide) hi0 hi1 hL ?_
  refine lw_ld (pc := 1777) (n := 2) rfl rfl rfl rfl rfl (by decide) hi0 hi1 hL ?_
  refine lw_ld (pc := 1782) (n := 3) rfl rfl rfl rfl rfl (by decide) hi0 hi1 hL ?_
  refine XW.call (d' := 41) (mc' := 0) (ms' := 0) (av := [.ref 94, .int (xs (i + Int32.ofInt 1).toNatClampNeg), .int (xs (i + Int32.ofInt 2).toNatClampNeg), .int (xs (i + Int32.ofInt 3).toNatClampNeg)]) (rest := []) (M := mr_371) (Ma := mr_343) rfl (show mcode 371 1787 = some (1787, .invokevirtual 202, 3, 343, 0, 0, _) from rfl) rfl (by decide) (by decide) ⟨rfl, 94, _, rfl, (iv_cell hw1).2⟩ rfl rfl (show _ ≤ 8 by decide) (kk_418 [.ref 94, .int (xs (i + Int32.ofInt 1).toNatClampNeg), .int (xs (i + Int32.ofInt 2).toNatClampNeg), .int (xs (i + Int32.ofInt 3).toNatClampNeg)] w1 hw1 ⟨rfl, any32 _, any32 _, any32 _, trivial⟩ (fun q hq => by cases hq) hf1) (by decide) (by omega) (by omega) (fun r2 w2 hQ2 => ?_)
  obtain ⟨hf2, hw2, hI2, ⟨x2, rfl, -, -⟩, -⟩ := hQ2
  have c2_0 : w2.2.1 1 1 = w1.2.1 1 1 := hI2 1 1 rfl
  have m2_0 : w2.2.1 94 2 = w1.2.1 94 2 := hI2 94 2 rfl
  have c2_1 : w2.2.1 1 0 = w1.2.1 1 0 := hI2 1 0 rfl
  have m2_1 : w2.2.1 94 1 = w1.2.1 94 1 := hI2 94 1 rfl
  have c2_2 : w2.2.1 41 0 = w1.2.1 41 0 := hI2 41 0 rfl
  have m2_2 : w2.2.1 94 34 = w1.2.1 94 34 := hI2 94 34 rfl
  have c2_3 : ∀ k, w2.2.1 42 k = w1.2.1 42 k := fun k => hI2 42 k rfl
  have m2_3 : ∀ k, w2.2.1 122 k = w1.2.1 122 k := fun k => hI2 122 k rfl
  have c2_4 : w2.2.1 47 3 = w1.2.1 47 3 := hI2 47 3 rfl
  have m2_4 : w2.2.1 94 35 = w1.2.1 94 35 := hI2 94 35 rfl
  have c2_5 : ∀ k, w2.2.1 48 k = w1.2.1 48 k := fun k => hI2 48 k rfl
  have m2_5 : ∀ k, w2.2.1 123 k = w1.2.1 123 k := fun k => hI2 123 k rfl
  have c2_6 : ∀ k, w2.2.1 49 k = w1.2.1 49 k := fun k => hI2 49 k rfl
  have m2_6 : ∀ k, w2.2.1 124 k = w1.2.1 124 k := fun k => hI2 124 k rfl
  have y2_7_0 : ∀ k, w2.2.1 5 k = w1.2.1 5 k := fun k => hI2 5 k rfl
  have y2_7_1 : ∀ k, w2.2.1 98 k = w1.2.1 98 k := fun k => hI2 98 k rfl
  have y2_7_2 : ∀ k, w2.2.1 8 k = w1.2.1 8 k := fun k => hI2 8 k rfl
  have y2_7_3 : ∀ k, w2.2.1 102 k = w1.2.1 102 k := fun k => hI2 102 k rfl
  have y2_7_4 : w2.2.1 1 1 = w1.2.1 1 1 := hI2 1 1 rfl
  refine XW.fam (S' := (1791, [(3, .int i), (2, .ref 94), (1, .ref 0), (0, .retAddr 0)], [], w2)) (M := mr_371) rfl (show mcode 371 1790 = some (1790, .pop, 1, 0, 0, 0, _) from rfl) (Or.inr (Or.inr (Or.inr (Or.inr (Or.inr (Or.inl ⟨_, rfl, rfl⟩)))))) ?_
  refine XW.fam (S' := (2217, [(3, .int i), (2, .ref 94), (1, .ref 0), (0, .retAddr 0)], [], w2)) (M := mr_371) rfl (show mcode 371 1791 = some (1791, .goto 426, 3, 2217, 0, 0, _) from rfl) (Or.inr (Or.inl ⟨2217, [], rfl, rfl⟩)) ?_
  exact XW.wid (mc := mc) (ms := ms) (by omega) (by omega) (K w2 ⟨hf2, ⟨_, _, hw2⟩, ⟨(c2_0.trans c1_0).trans (hv.1.trans (m1_0.symm.trans m2_0.symm)), (c2_1.trans c1_1).trans (hv.2.1.trans (m1_1.symm.trans m2_1.symm)), (c2_2.trans c1_2).trans (hv.2.2.1.trans (m1_2.symm.trans m2_2.symm)), fun k => ((c2_3 k).trans (c1_3 k)).trans ((hv.2.2.2.1 k).trans ((m1_3 k).symm.trans (m2_3 k).symm)), (c2_4.trans c1_4).trans (hv.2.2.2.2.1.trans (m1_4.symm.trans m2_4.symm)), fun k => ((c2_5 k).trans (c1_5 k)).trans ((hv.2.2.2.2.2.1 k).trans ((m1_5 k).symm.trans (m2_5 k).symm)), fun k => ((c2_6 k).trans (c1_6 k)).trans ((hv.2.2.2.2.2.2.1 k).trans ((m1_6 k).symm.trans (m2_6 k).symm)), RLf_keep (fun k => (y2_7_0 k).trans (y1_7_0 k)) (fun k => (y2_7_1 k).trans (y1_7_1 k)) (fun k => (y2_7_2 k).trans (y1_7_2 k)) (fun k => (y2_7_3 k).trans (y1_7_3 k)) (y2_7_4.trans y1_7_4) hv.2.2.2.2.2.2.2⟩⟩)
set_option maxRecDepth 100000 in
theorem case_46 {Ln : Nat} {xs : Nat → Int32} {mc ms : Nat} {w : mW} {i : Int32} (hi0 : 0 ≤ i.toInt) (hi1 : i.toInt + 6 ≤ Ln) (hL : Ln ≤ 3072) (hV : IV w) (K : ∀ w', IV w' → XW 371 mr_371 (some (Ln, xs)) 91 mc ms Qone (2217, [(3, .int i), (2, .ref 94), (1, .ref 0), (0, .retAddr 0)], [], w')) : XW 371 mr_371 (some (Ln, xs)) 91 (mc + 1) (ms + 240) Qone (1794, [(3, .int i), (2, .ref 94), (1, .ref 0), (0, .retAddr 0)], [], w) := by
  obtain ⟨hf, ⟨sh, R, hw⟩, hv⟩ := hV
  refine XW.fam (S' := (1795, [(3, .int i), (2, .ref 94), (1, .ref 0), (0, .retAddr 0)], [.ref 0], w)) (M := mr_371) rfl (show mcode 371 1794 = some (1794, .aload_n 1, 1, 0, 0, 0, _) from rfl) (Or.inl ⟨.ref 0, rfl, rfl⟩) ?_
  refine lw_ld (pc := 1795) (n := 1) rfl rfl rfl rfl rfl (by decide) hi0 hi1 hL ?_
  refine lw_ld (pc := 1800) (n := 2) rfl rfl rfl rfl rfl (by decide) hi0 hi1 hL ?_
  refine lw_ld (pc := 1805) (n := 3) rfl rfl rfl rfl rfl (by decide) hi0 hi1 hL ?_
  refine XW.call (d' := 43) (mc' := 0) (ms' := 0) (av := [.ref 0, .int (xs (i + Int32.ofInt 1).toNatClampNeg), .int (xs (i + Int32.ofInt 2).toNatClampNeg), .int (xs (i + Int32.ofInt 3).toNatClampNeg)]) (rest := []) (M := mr_371) (Ma := mr_204) rfl (show mcode 371 1810 = some (1810, .invokevirtual 203, 3, 204, 0, 0, _) from rfl) rfl (by decide) (by decide) ⟨rfl, 0, _, rfl, (iv_cell hw).1⟩ rfl rfl (show _ ≤ 8 by decide) (kk_210 [.ref 0, .int (xs (i + Int32.ofInt 1).toNatClampNeg), .int (xs (i + Int32.ofInt 2).toNatClampNeg), .int (xs (i + Int32.ofInt 3).toNatClampNeg)] w hw ⟨rfl, any32 _, any32 _, any32 _, trivial⟩ (fun q hq => by cases hq) hf) (by decide) (by omega) (by omega) (fun r1 w1 hQ1 => ?_)
  obtain ⟨hf1, hw1, hI1, ⟨x1, rfl, -, -⟩, -⟩ := hQ1
  have c1_0 : w1.2.1 1 1 = w.2.1 1 1 := hI1 1 1 rfl
  have m1_0 : w1.2.1 94 2 = w.2.1 94 2 := hI1 94 2 rfl
  have c1_1 : w1.2.1 1 0 = w.2.1 1 0 := hI1 1 0 rfl
  have m1_1 : w1.2.1 94 1 = w.2.1 94 1 := hI1 94 1 rfl
  have c1_2 : w1.2.1 41 0 = w.2.1 41 0 := hI1 41 0 rfl
  have m1_2 : w1.2.1 94 34 = w.2.1 94 34 := hI1 94 34 rfl
  have c1_3 : ∀ k, w1.2.1 42 k = w.2.1 42 k := fun k => hI1 42 k rfl
  have m1_3 : ∀ k, w1.2.1 122 k = w.2.1 122 k := fun k => hI1 122 k rfl
  have c1_4 : w1.2.1 47 3 = w.2.1 47 3 := hI1 47 3 rfl
  have m1_4 : w1.2.1 94 35 = w.2.1 94 35 := hI1 94 35 rfl
  have c1_5 : ∀ k, w1.2.1 48 k = w.2.1 48 k := fun k => hI1 48 k rfl
  have m1_5 : ∀ k, w1.2.1 123 k = w.2.1 123 k := fun k => hI1 123 k rfl
  have c1_6 : ∀ k, w1.2.1 49 k = w.2.1 49 k := fun k => hI1 49 k rfl
  have m1_6 : ∀ k, w1.2.1 124 k = w.2.1 124 k := fun k => hI1 124 k rfl
  have y1_7_0 : ∀ k, w1.2.1 5 k = w.2.1 5 k := fun k => hI1 5 k rfl
  have y1_7_1 : ∀ k, w1.2.1 98 k = w.2.1 98 k := fun k => hI1 98 k rfl
  have y1_7_2 : ∀ k, w1.2.1 8 k = w.2.1 8 k := fun k => hI1 8 k rfl
  have y1_7_3 : ∀ k, w1.2.1 102 k = w.2.1 102 k := fun k => hI1 102 k rfl
  have y1_7_4 : w1.2.1 1 1 = w.2.1 1 1 := hI1 1 1 rfl
  refine XW.fam (S' := (1814, [(3, .int i), (2, .ref 94), (1, .ref 0), (0, .retAddr 0)], [], w1)) (M := mr_371) rfl (show mcode 371 1813 = some (1813, .pop, 1, 0, 0, 0, _) from rfl) (Or.inr (Or.inr (Or.inr (Or.inr (Or.inr (Or.inl ⟨_, rfl, rfl⟩)))))) ?_
  refine XW.fam (S' := (1815, [(3, .int i), (2, .ref 94), (1, .ref 0), (0, .retAddr 0)], [.ref 94], w1)) (M := mr_371) rfl (show mcode 371 1814 = some (1814, .aload_n 2, 1, 0, 0, 0, _) from rfl) (Or.inl ⟨.ref 94, rfl, rfl⟩) ?_
  refine lw_ld (pc := 1815) (n := 1) rfl rfl rfl rfl rfl (by decide) hi0 hi1 hL ?_
  refine lw_ld (pc := 1820) (n := 2) rfl rfl rfl rfl rfl (by decide) hi0 hi1 hL ?_
  refine lw_ld (pc := 1825) (n := 3) rfl rfl rfl rfl rfl (by decide) hi0 hi1 hL ?_
  refine XW.call (d' := 42) (mc' := 0) (ms' := 0) (av := [.ref 94, .int (xs (i + Int32.ofInt 1).toNatClampNeg), .int (xs (i + Int32.ofInt 2).toNatClampNeg), .int (xs (i + Int32.ofInt 3).toNatClampNeg)]) (rest := []) (M := mr_371) (Ma := mr_344) rfl (show mcode 371 1830 = some (1830, .invokevirtual 206, 3, 344, 0, 0, _) from rfl) rfl (by decide) (by decide) ⟨rfl, 94, _, rfl, (iv_cell hw1).2⟩ rfl rfl (show _ ≤ 8 by decide) (kk_420 [.ref 94, .int (xs (i + Int32.ofInt 1).toNatClampNeg), .int (xs (i + Int32.ofInt 2).toNatClampNeg), .int (xs (i + Int32.ofInt 3).toNatClampNeg)] w1 hw1 ⟨rfl, any32 _, any32 _, any32 _, trivial⟩ (fun q hq => by cases hq) hf1) (by decide) (by omega) (by omega) (fun r2 w2 hQ2 => ?_)
  obtain ⟨hf2, hw2, hI2, ⟨x2, rfl, -, -⟩, -⟩ := hQ2
  have c2_0 : w2.2.1 1 1 = w1.2.1 1 1 := hI2 1 1 rfl
  have m2_0 : w2.2.1 94 2 = w1.2.1 94 2 := hI2 94 2 rfl
  have c2_1 : w2.2.1 1 0 = w1.2.1 1 0 := hI2 1 0 rfl
  have m2_1 : w2.2.1 94 1 = w1.2.1 94 1 := hI2 94 1 rfl
  have c2_2 : w2.2.1 41 0 = w1.2.1 41 0 := hI2 41 0 rfl
  have m2_2 : w2.2.1 94 34 = w1.2.1 94 34 := hI2 94 34 rfl
  have c2_3 : ∀ k, w2.2.1 42 k = w1.2.1 42 k := fun k => hI2 42 k rfl
  have m2_3 : ∀ k, w2.2.1 122 k = w1.2.1 122 k := fun k => hI2 122 k rfl
  have c2_4 : w2.2.1 47 3 = w1.2.1 47 3 := hI2 47 3 rfl
  have m2_4 : w2.2.1 94 35 = w1.2.1 94 35 := hI2 94 35 rfl
  have c2_5 : ∀ k, w2.2.1 48 k = w1.2.1 48 k := fun k => hI2 48 k rfl
  have m2_5 : ∀ k, w2.2.1 123 k = w1.2.1 123 k := fun k => hI2 123 k rfl
  have c2_6 : ∀ k, w2.2.1 49 k = w1.2.1 49 k := fun k => hI2 49 k rfl
  have m2_6 : ∀ k, w2.2.1 124 k = w1.2.1 124 k := fun k => hI2 124 k rfl
  have y2_7_0 : ∀ k, w2.2.1 5 k = w1.2.1 5 k := fun k => hI2 5 k rfl
  have y2_7_1 : ∀ k, w2.2.1 98 k = w1.2.1 98 k := fun k => hI2 98 k rfl
  have y2_7_2 : ∀ k, w2.2.1 8 k = w1.2.1 8 k := fun k => hI2 8 k rfl
  have y2_7_3 : ∀ k, w2.2.1 102 k = w1.2.1 102 k := fun k => hI2 102 k rfl
  have y2_7_4 : w2.2.1 1 1 = w1.2.1 1 1 := hI2 1 1 rfl
  refine XW.fam (S' := (1834, [(3, .int i), (2, .ref 94), (1, .ref 0), (0, .retAddr 0)], [], w2)) (M := mr_371) rfl (show mcode 371 1833 = some (1833, .pop, 1, 0, 0, 0, _) from rfl) (Or.inr (Or.inr (Or.inr (Or.inr (Or.inr (Or.inl ⟨_, rfl, rfl⟩)))))) ?_
  refine XW.fam (S' := (2217, [(3, .int i), (2, .ref 94), (1, .ref 0), (0, .retAddr 0)], [], w2)) (M := mr_371) rfl (show mcode 371 1834 = some (1834, .goto 383, 3, 2217, 0, 0, _) from rfl) (Or.inr (Or.inl ⟨2217, [], rfl, rfl⟩)) ?_
  exact XW.wid (mc := mc) (ms := ms) (by omega) (by omega) (K w2 ⟨hf2, ⟨_, _, hw2⟩, ⟨(c2_0.trans c1_0).trans (hv.1.trans (m1_0.symm.trans m2_0.symm)), (c2_1.trans c1_1).trans (hv.2.1.trans (m1_1.symm.trans m2_1.symm)), (c2_2.trans c1_2).trans (hv.2.2.1.trans (m1_2.symm.trans m2_2.symm)), fun k => ((c2_3 k).trans (c1_3 k)).trans ((hv.2.2.2.1 k).trans ((m1_3 k).symm.trans (m2_3 k).symm)), (c2_4.trans c1_4).trans (hv.2.2.2.2.1.trans (m1_4.symm.trans m2_4.symm)), fun k => ((c2_5 k).trans (c1_5 k)).trans ((hv.2.2.2.2.2.1 k).trans ((m1_5 k).symm.trans (m2_5 k).symm)), fun k => ((c2_6 k).trans (c1_6 k)).trans ((hv.2.2.2.2.2.2.1 k).trans ((m1_6 k).symm.trans (m2_6 k).symm)), RLf_keep (fun k => (y2_7_0 k).trans (y1_7_0 k)) (fun k => (y2_7_1 k).trans (y1_7_1 k)) (fun k => (y2_7_2 k).trans (y1_7_2 k)) (fun k => (y2_7_3 k).trans (y1_7_3 k)) (y2_7_4.trans y1_7_4) hv.2.2.2.2.2.2.2⟩⟩)
set_option maxRecDepth 100000 in
theorem case_47 {Ln : Nat} {xs : Nat → Int32} {mc ms : Nat} {w : mW} {i : Int32} (hi0 : 0 ≤ i.toInt) (hi1 : i.toInt + 6 ≤ Ln) (hL : Ln ≤ 3072) (hV : IV w) (K : ∀ w', IV w' → XW 371 mr_371 (some (Ln, xs)) 91 mc ms Qone (2217, [(3, .int i), (2, .ref 94), (1, .ref 0), (0, .retAddr 0)], [], w')) : XW 371 mr_371 (some (Ln, xs)) 91 (mc + 1) (ms + 240) Qone (1837, [(3, .int i), (2, .ref 94), (1, .ref 0), (0, .retAddr 0)], [], w) := by
  obtain ⟨hf, ⟨sh, R, hw⟩, hv⟩ := hV
  refine XW.fam (S' := (1838, [(3, .int i), (2, .ref 94), (1, .ref 0), (0, .retAddr 0)], [.ref 0], w)) (M := mr_371) rfl (show mcode 371 1837 = some (1837, .aload_n 1, 1, 0, 0, 0, _) from rfl) (Or.inl ⟨.ref 0, rfl, rfl⟩) ?_
  refine lw_ld (pc := 1838) (n := 1) rfl rfl rfl rfl rfl (by decide) hi0 hi1 hL ?_
  refine lw_ld (pc := 1843) (n := 2) rfl rfl rfl rfl rfl (by decide) hi0 hi1 hL ?_
  refine lw_ld (pc := 1848) (n := 3) rfl rfl rfl rfl rfl (by decide) hi0 hi1 hL ?_
  refine XW.call (d' := 57) (mc' := 0) (ms' := 0) (av := [.ref 0, .int (xs (i + Int32.ofInt 1).toNatClampNeg), .int (xs (i + Int32.ofInt 2).toNatClampNeg), .int (xs (i + Int32.ofInt 3).toNatClampNeg)]) (rest := []) (M := mr_371) (Ma := mr_208) rfl (show mcode 371 1853 = some (1853, .invokevirtual 207, 3, 208, 0, 0, _) from rfl) rfl (by decide) (by decide) ⟨rfl, 0, _, rfl, (iv_cell hw).1⟩ rfl rfl (show _ ≤ 8 by decide) (kk_212 [.ref 0, .int (xs (i + Int32.ofInt 1).toNatClampNeg), .int (xs (i + Int32.ofInt 2).toNatClampNeg), .int (xs (i + Int32.ofInt 3).toNatClampNeg)] w hw ⟨rfl, any32 _, any32 _, any32 _, trivial⟩ (fun q hq => by cases hq) hf) (by decide) (by omega) (by omega) (fun r1 w1 hQ1 => ?_)
  obtain ⟨hf1, hw1, hI1, ⟨x1, rfl, -, -⟩, -⟩ := hQ1
  have c1_0 : w1.2.1 1 1 = w.2.1 1 1 := hI1 1 1 rfl
  have m1_0 : w1.2.1 94 2 = w.2.1 94 2 := hI1 94 2 rfl
  have c1_1 : w1.2.1 1 0 = w.2.1 1 0 := hI1 1 0 rfl
  have m1_1 : w1.2.1 94 1 = w.2.1 94 1 := hI1 94 1 rfl
  have c1_2 : w1.2.1 41 0 = w.2.1 41 0 := hI1 41 0 rfl
  have m1_2 : w1.2.1 94 34 = w.2.1 94 34 := hI1 94 34 rfl
  have c1_3 : ∀ k, w1.2.1 42 k = w.2.1 42 k := fun k => hI1 42 k rfl
  have m1_3 : ∀ k, w1.2.1 122 k = w.2.1 122 k := fun k => hI1 122 k rfl
  have c1_4 : w1.2.1 47 3 = w.2.1 47 3 := hI1 47 3 rfl
  have m1_4 : w1.2.1 94 35 = w.2.1 94 35 := hI1 94 35 rfl
  have c1_5 : ∀ k, w1.2.1 48 k = w.2.1 48 k := fun k => hI1 48 k rfl
  have m1_5 : ∀ k, w1.2.1 123 k = w.2.1 123 k := fun k => hI1 123 k rfl
  have c1_6 : ∀ k, w1.2.1 49 k = w.2.1 49 k := fun k => hI1 49 k rfl
  have m1_6 : ∀ k, w1.2.1 124 k = w.2.1 124 k := fun k => hI1 124 k rfl
  have y1_7_0 : ∀ k, w1.2.1 5 k = w.2.1 5 k := fun k => hI1 5 k rfl
  have y1_7_1 : ∀ k, w1.2.1 98 k = w.2.1 98 k := fun k => hI1 98 k rfl
  have y1_7_2 : ∀ k, w1.2.1 8 k = w.2.1 8 k := fun k => hI1 8 k rfl
  have y1_7_3 : ∀ k, w1.2.1 102 k = w.2.1 102 k := fun k => hI1 102 k rfl
  have y1_7_4 : w1.2.1 1 1 = w.2.1 1 1 := hI1 1 1 rfl
  refine XW.fam (S' := (1857, [(3, .int i), (2, .ref 94), (1, .ref 0), (0, .retAddr 0)], [], w1)) (M := mr_371) rfl (show mcode 371 1856 = some (1856, .pop, 1, 0, 0, 0, _) from rfl) (Or.inr (Or.inr (Or.inr (Or.inr (Or.inr (Or.inl ⟨_, rfl, rfl⟩)))))) ?_
  refine XW.fam (S' := (1858, [(3, .int i), (2, .ref 94), (1, .ref 0), (0, .retAddr 0)], [.ref 94], w1)) (M := mr_371) rfl (show mcode 371 1857 = some (1857, .aload_n 2, 1, 0, 0, 0, _) from rfl) (Or.inl ⟨.ref 94, rfl, rfl⟩) ?_
  refine lw_ld (pc := 1858) (n := 1) rfl rfl rfl rfl rfl (by decide) hi0 hi1 hL ?_
  refine lw_ld (pc := 1863) (n := 2) rfl rfl rfl rfl rfl (by decide) hi0 hi1 hL ?_
  refine lw_ld (pc := 1868) (n := 3) rfl rfl rfl rfl rfl (by decide) hi0 hi1 hL ?_
  refine XW.call (d' := 41) (mc' := 0) (ms' := 0) (av := [.ref 94, .int (xs (i + Int32.ofInt 1).toNatClampNeg), .int (xs (i + Int32.ofInt 2).toNatClampNeg), .int (xs (i + Int32.ofInt 3).toNatClampNeg)]) (rest := []) (M := mr_371) (Ma := mr_347) rfl (show mcode 371 1873 = some (1873, .invokevirtual 210, 3, 347, 0, 0, _) from rfl) rfl (by decide) (by decide) ⟨rfl, 94, _, rfl, (iv_cell hw1).2⟩ rfl rfl (show _ ≤ 8 by decide) (kk_421 [.ref 94, .int (xs (i + Int32.ofInt 1).toNatClampNeg), .int (xs (i + Int32.ofInt 2).toNatClampNeg), .int (xs (i + Int32.ofInt 3).toNatClampNeg)] w1 hw1 ⟨rfl, any32 _, any32 _, any32 _, trivial⟩ (fun q hq => by cases hq) hf1) (by decide) (by omega) (by omega) (fun r2 w2 hQ2 => ?_)
  obtain ⟨hf2, hw2, hI2, ⟨x2, rfl, -, -⟩, -⟩ := hQ2
  have c2_0 : w2.2.1 1 1 = w1.2.1 1 1 := hI2 1 1 rfl
  have m2_0 : w2.2.1 94 2 = w1.2.1 94 2 := hI2 94 2 rfl
  have c2_1 : w2.2.1 1 0 = w1.2.1 1 0 := hI2 1 0 rfl
  have m2_1 : w2.2.1 94 1 = w1.2.1 94 1 := hI2 94 1 rfl
  have c2_2 : w2.2.1 41 0 = w1.2.1 41 0 := hI2 41 0 rfl
  have m2_2 : w2.2.1 94 34 = w1.2.1 94 34 := hI2 94 34 rfl
  have c2_3 : ∀ k, w2.2.1 42 k = w1.2.1 42 k := fun k => hI2 42 k rfl
  have m2_3 : ∀ k, w2.2.1 122 k = w1.2.1 122 k := fun k => hI2 122 k rfl
  have c2_4 : w2.2.1 47 3 = w1.2.1 47 3 := hI2 47 3 rfl
  have m2_4 : w2.2.1 94 35 = w1.2.1 94 35 := hI2 94 35 rfl
  have c2_5 : ∀ k, w2.2.1 48 k = w1.2.1 48 k := fun k => hI2 48 k rfl
  have m2_5 : ∀ k, w2.2.1 123 k = w1.2.1 123 k := fun k => hI2 123 k rfl
  have c2_6 : ∀ k, w2.2.1 49 k = w1.2.1 49 k := fun k => hI2 49 k rfl
  have m2_6 : ∀ k, w2.2.1 124 k = w1.2.1 124 k := fun k => hI2 124 k rfl
  have y2_7_0 : ∀ k, w2.2.1 5 k = w1.2.1 5 k := fun k => hI2 5 k rfl
  have y2_7_1 : ∀ k, w2.2.1 98 k = w1.2.1 98 k := fun k => hI2 98 k rfl
  have y2_7_2 : ∀ k, w2.2.1 8 k = w1.2.1 8 k := fun k => hI2 8 k rfl
  have y2_7_3 : ∀ k, w2.2.1 102 k = w1.2.1 102 k := fun k => hI2 102 k rfl
  have y2_7_4 : w2.2.1 1 1 = w1.2.1 1 1 := hI2 1 1 rfl
  refine XW.fam (S' := (1877, [(3, .int i), (2, .ref 94), (1, .ref 0), (0, .retAddr 0)], [], w2)) (M := mr_371) rfl (show mcode 371 1876 = some (1876, .pop, 1, 0, 0, 0, _) from rfl) (Or.inr (Or.inr (Or.inr (Or.inr (Or.inr (Or.inl ⟨_, rfl, rfl⟩)))))) ?_
  refine XW.fam (S' := (2217, [(3, .int i), (2, .ref 94), (1, .ref 0), (0, .retAddr 0)], [], w2)) (M := mr_371) rfl (show mcode 371 1877 = some (1877, .goto 340, 3, 2217, 0, 0, _) from rfl) (Or.inr (Or.inl ⟨2217, [], rfl, rfl⟩)) ?_
  exact XW.wid (mc := mc) (ms := ms) (by omega) (by omega) (K w2 ⟨hf2, ⟨_, _, hw2⟩, ⟨(c2_0.trans c1_0).trans (hv.1.trans (m1_0.symm.trans m2_0.symm)), (c2_1.trans c1_1).trans (hv.2.1.trans (m1_1.symm.trans m2_1.symm)), (c2_2.trans c1_2).trans (hv.2.2.1.trans (m1_2.symm.trans m2_2.symm)), fun k => ((c2_3 k).trans (c1_3 k)).trans ((hv.2.2.2.1 k).trans ((m1_3 k).symm.trans (m2_3 k).symm)), (c2_4.trans c1_4).trans (hv.2.2.2.2.1.trans (m1_4.symm.trans m2_4.symm)), fun k => ((c2_5 k).trans (c1_5 k)).trans ((hv.2.2.2.2.2.1 k).trans ((m1_5 k).symm.trans (m2_5 k).symm)), fun k => ((c2_6 k).trans (c1_6 k)).trans ((hv.2.2.2.2.2.2.1 k).trans ((m1_6 k).symm.trans (m2_6 k).symm)), RLf_keep (fun k => (y2_7_0 k).trans (y1_7_0 k)) (fun k => (y2_7_1 k).trans (y1_7_1 k)) (fun k => (y2_7_2 k).trans (y1_7_2 k)) (fun k => (y2_7_3 k).trans (y1_7_3 k)) (y2_7_4.trans y1_7_4) hv.2.2.2.2.2.2.2⟩⟩)
set_option maxRecDepth 100000 in
theorem case_48 {Ln : Nat} {xs : Nat → Int32} {mc ms : Nat} {w : mW} {i : Int32} (hi0 : 0 ≤ i.toInt) (hi1 : i.toInt + 6 ≤ Ln) (hL : Ln ≤ 3072) (hV : IV w) (K : ∀ w', IV w' → XW 371 mr_371 (some (Ln, xs)) 91 mc ms Qone (2217, [(3, .int i), (2, .ref 94), (1, .ref 0), (0, .retAddr 0)], [], w')) : XW 371 mr_371 (some (Ln, xs)) 91 (mc + 1) (ms + 240) Qone (1880, [(3, .int i), (2, .ref 94), (1, .ref 0), (0, .retAddr 0)], [], w) := by
  obtain ⟨hf, ⟨sh, R, hw⟩, hv⟩ := hV
  refine XW.fam (S' := (1881, [(3, .int i), (2, .ref 94), (1, .ref 0), (0, .retAddr 0)], [.ref 0], w)) (M := mr_371) rfl (show mcode 371 1880 = some (1880, .aload_n 1, 1, 0, 0, 0, _) from rfl) (Or.inl ⟨.ref 0, rfl, rfl⟩) ?_
  refine lw_ld (pc := 1881) (n := 1) rfl rfl rfl rfl rfl (by decide) hi0 hi1 hL ?_
  refine XW.call (d' := 41) (mc' := 0) (ms' := 0) (av := [.ref 0, .int (xs (i + Int32.ofInt 1).toNatClampNeg)]) (rest := []) (M := mr_371) (Ma := mr_215) rfl (show mcode 371 1886 = some (1886, .invokevirtual 211, 3, 215, 0, 0, _) from rfl) rfl (by decide) (by decide) ⟨rfl, 0, _, rfl, (iv_cell hw).1⟩ rfl rfl (show _ ≤ 8 by decide) (kk_213 [.ref 0, .int (xs (i + Int32.ofInt 1).toNatClampNeg)] w hw ⟨rfl, any32 _, trivial⟩ (fun q hq => by cases hq) hf) (by decide) (by omega) (by omega) (fun r1 w1 hQ1 => ?_)
  obtain ⟨hf1, hw1, hI1, ⟨x1, rfl, -, -⟩, -⟩ := hQ1
  have c1_0 : w1.2.1 1 1 = w.2.1 1 1 := hI1 1 1 rfl
  have m1_0 : w1.2.1 94 2 = w.2.1 94 2 := hI1 94 2 rfl
  have c1_1 : w1.2.1 1 0 = w.2.1 1 0 := hI1 1 0 rfl
  have m1_1 : w1.2.1 94 1 = w.2.1 94 1 := hI1 94 1 rfl
  have c1_2 : w1.2.1 41 0 = w.2.1 41 0 := hI1 41 0 rfl
  have m1_2 : w1.2.1 94 34 = w.2.1 94 34 := hI1 94 34 rfl
  have c1_3 : ∀ k, w1.2.1 42 k = w.2.1 42 k := fun k => hI1 42 k rfl
  have m1_3 : ∀ k, w1.2.1 122 k = w.2.1 122 k := fun k => hI1 122 k rfl
  have c1_4 : w1.2.1 47 3 = w.2.1 47 3 := hI1 47 3 rfl
  have m1_4 : w1.2.1 94 35 = w.2.1 94 35 := hI1 94 35 rfl
  have c1_5 : ∀ k, w1.2.1 48 k = w.2.1 48 k := fun k => hI1 48 k rfl
  have m1_5 : ∀ k, w1.2.1 123 k = w.2.1 123 k := fun k => hI1 123 k rfl
  have c1_6 : ∀ k, w1.2.1 49 k = w.2.1 49 k := fun k => hI1 49 k rfl
  have m1_6 : ∀ k, w1.2.1 124 k = w.2.1 124 k := fun k => hI1 124 k rfl
  have y1_7_0 : ∀ k, w1.2.1 5 k = w.2.1 5 k := fun k => hI1 5 k rfl
  have y1_7_1 : ∀ k, w1.2.1 98 k = w.2.1 98 k := fun k => hI1 98 k rfl
  have y1_7_2 : ∀ k, w1.2.1 8 k = w.2.1 8 k := fun k => hI1 8 k rfl
  have y1_7_3 : ∀ k, w1.2.1 102 k = w.2.1 102 k := fun k => hI1 102 k rfl
  have y1_7_4 : w1.2.1 1 1 = w.2.1 1 1 := hI1 1 1 rfl
  refine XW.fam (S' := (1890, [(3, .int i), (2, .ref 94), (1, .ref 0), (0, .retAddr 0)], [], w1)) (M := mr_371) rfl (show mcode 371 1889 = some (1889, .pop, 1, 0, 0, 0, _) from rfl) (Or.inr (Or.inr (Or.inr (Or.inr (Or.inr (Or.inl ⟨_, rfl, rfl⟩)))))) ?_
  refine XW.fam (S' := (1891, [(3, .int i), (2, .ref 94), (1, .ref 0), (0, .retAddr 0)], [.ref 94], w1)) (M := mr_371) rfl (show mcode 371 1890 = some (1890, .aload_n 2, 1, 0, 0, 0, _) from rfl) (Or.inl ⟨.ref 94, rfl, rfl⟩) ?_
  refine lw_ld (pc := 1891) (n := 1) rfl rfl rfl rfl rfl (by decide) hi0 hi1 hL ?_
  refine XW.call (d' := 41) (mc' := 0) (ms' := 0) (av := [.ref 94, .int (xs (i + Int32.ofInt 1).toNatClampNeg)]) (rest := []) (M := mr_371) (Ma := mr_360) rfl (show mcode 371 1896 = some (1896, .invokevirtual 214, 3, 360, 0, 0, _) from rfl) rfl (by decide) (by decide) ⟨rfl, 94, _, rfl, (iv_cell hw1).2⟩ rfl rfl (show _ ≤ 8 by decide) (kk_422 [.ref 94, .int (xs (i + Int32.ofInt 1).toNatClampNeg)] w1 hw1 ⟨rfl, any32 _, trivial⟩ (fun q hq => by cases hq) hf1) (by decide) (by omega) (by omega) (fun r2 w2 hQ2 => ?_)
  obtain ⟨hf2, hw2, hI2, ⟨x2, rfl, -, -⟩, -⟩ := hQ2
  have c2_0 : w2.2.1 1 1 = w1.2.1 1 1 := hI2 1 1 rfl
  have m2_0 : w2.2.1 94 2 = w1.2.1 94 2 := hI2 94 2 rfl
  have c2_1 : w2.2.1 1 0 = w1.2.1 1 0 := hI2 1 0 rfl
  have m2_1 : w2.2.1 94 1 = w1.2.1 94 1 := hI2 94 1 rfl
  have c2_2 : w2.2.1 41 0 = w1.2.1 41 0 := hI2 41 0 rfl
  have m2_2 : w2.2.1 94 34 = w1.2.1 94 34 := hI2 94 34 rfl
  have c2_3 : ∀ k, w2.2.1 42 k = w1.2.1 42 k := fun k => hI2 42 k rfl
  have m2_3 : ∀ k, w2.2.1 122 k = w1.2.1 122 k := fun k => hI2 122 k rfl
  have c2_4 : w2.2.1 47 3 = w1.2.1 47 3 := hI2 47 3 rfl
  have m2_4 : w2.2.1 94 35 = w1.2.1 94 35 := hI2 94 35 rfl
  have c2_5 : ∀ k, w2.2.1 48 k = w1.2.1 48 k := fun k => hI2 48 k rfl
  have m2_5 : ∀ k, w2.2.1 123 k = w1.2.1 123 k := fun k => hI2 123 k rfl
  have c2_6 : ∀ k, w2.2.1 49 k = w1.2.1 49 k := fun k => hI2 49 k rfl
  have m2_6 : ∀ k, w2.2.1 124 k = w1.2.1 124 k := fun k => hI2 124 k rfl
  have y2_7_0 : ∀ k, w2.2.1 5 k = w1.2.1 5 k := fun k => hI2 5 k rfl
  have y2_7_1 : ∀ k, w2.2.1 98 k = w1.2.1 98 k := fun k => hI2 98 k rfl
  have y2_7_2 : ∀ k, w2.2.1 8 k = w1.2.1 8 k := fun k => hI2 8 k rfl
  have y2_7_3 : ∀ k, w2.2.1 102 k = w1.2.1 102 k := fun k => hI2 102 k rfl
  have y2_7_4 : w2.2.1 1 1 = w1.2.1 1 1 := hI2 1 1 rfl
  refine XW.fam (S' := (1900, [(3, .int i), (2, .ref 94), (1, .ref 0), (0, .retAddr 0)], [], w2)) (M := mr_371) rfl (show mcode 371 1899 = some (1899, .pop, 1, 0, 0, 0, _) from rfl) (Or.inr (Or.inr (Or.inr (Or.inr (Or.inr (Or.inl ⟨_, rfl, rfl⟩)))))) ?_
  refine XW.fam (S' := (2217, [(3, .int i), (2, .ref 94), (1, .ref 0), (0, .retAddr 0)], [], w2)) (M := mr_371) rfl (show mcode 371 1900 = some (1900, .goto 317, 3, 2217, 0, 0, _) from rfl) (Or.inr (Or.inl ⟨2217, [], rfl, rfl⟩)) ?_
  exact XW.wid (mc := mc) (ms := ms) (by omega) (by omega) (K w2 ⟨hf2, ⟨_, _, hw2⟩, ⟨(c2_0.trans c1_0).trans (hv.1.trans (m1_0.symm.trans m2_0.symm)), (c2_1.trans c1_1).trans (hv.2.1.trans (m1_1.symm.trans m2_1.symm)), (c2_2.trans c1_2).trans (hv.2.2.1.trans (m1_2.symm.trans m2_2.symm)), fun k => ((c2_3 k).trans (c1_3 k)).trans ((hv.2.2.2.1 k).trans ((m1_3 k).symm.trans (m2_3 k).symm)), (c2_4.trans c1_4).trans (hv.2.2.2.2.1.trans (m1_4.symm.trans m2_4.symm)), fun k => ((c2_5 k).trans (c1_5 k)).trans ((hv.2.2.2.2.2.1 k).trans ((m1_5 k).symm.trans (m2_5 k).symm)), fun k => ((c2_6 k).trans (c1_6 k)).trans ((hv.2.2.2.2.2.2.1 k).trans ((m1_6 k).symm.trans (m2_6 k).symm)), RLf_keep (fun k => (y2_7_0 k).trans (y1_7_0 k)) (fun k => (y2_7_1 k).trans (y1_7_1 k)) (fun k => (y2_7_2 k).trans (y1_7_2 k)) (fun k => (y2_7_3 k).trans (y1_7_3 k)) (y2_7_4.trans y1_7_4) hv.2.2.2.2.2.2.2⟩⟩)
set_option maxRecDepth 100000 in
theorem case_49 {Ln : Nat} {xs : Nat → Int32} {mc ms : Nat} {w : mW} {i : Int32} (hi0 : 0 ≤ i.toInt) (hi1 : i.toInt + 6 ≤ Ln) (hL : Ln ≤ 3072) (hV : IV w) (K : ∀ w', IV w' → XW 371 mr_371 (some (Ln, xs)) 91 mc ms Qone (2217, [(3, .int i), (2, .ref 94), (1, .ref 0), (0, .retAddr 0)], [], w')) : XW 371 mr_371 (some (Ln, xs)) 91 (mc + 1) (ms + 240) Qone (1903, [(3, .int i), (2, .ref 94), (1, .ref 0), (0, .retAddr 0)], [], w) := by
  obtain ⟨hf, ⟨sh, R, hw⟩, hv⟩ := hV
  refine XW.fam (S' := (1904, [(3, .int i), (2, .ref 94), (1, .ref 0), (0, .retAddr 0)], [.ref 0], w)) (M := mr_371) rfl (show mcode 371 1903 = some (1903, .aload_n 1, 1, 0, 0, 0, _) from rfl) (Or.inl ⟨.ref 0, rfl, rfl⟩) ?_
  refine lw_ld (pc := 1904) (n := 1) rfl rfl rfl rfl rfl (by decide) hi0 hi1 hL ?_
  refine lw_ld (pc := 1909) (n := 2) rfl rfl rfl rfl rfl (by decide) hi0 hi1 hL ?_
  refine XW.call (d' := 41) (mc' := 0) (ms' := 0) (av := [.ref 0, .int (xs (i + Int32.ofInt 1).toNatClampNeg), .int (xs (i + Int32.ofInt 2).toNatClampNeg)]) (rest := []) (M := mr_371) (Ma := mr_217) rfl (show mcode 371 1914 = some (1914, .invokevirtual 215, 3, 217, 0, 0, _) from rfl) rfl (by decide) (by decide) ⟨rfl, 0, _, rfl, (iv_cell hw).1⟩ rfl rfl (show _ ≤ 8 by decide) (kk_214 [.ref 0, .int (xs (i + Int32.ofInt 1).toNatClampNeg), .int (xs (i + Int32.ofInt 2).toNatClampNeg)] w hw ⟨rfl, any32 _, any32 _, trivial⟩ (fun q hq => by cases hq) hf) (by decide) (by omega) (by omega) (fun r1 w1 hQ1 => ?_)
  obtain ⟨hf1, hw1, hI1, ⟨x1, rfl, -, -⟩, -⟩ := hQ1
  have c1_0 : w1.2.1 1 1 = w.2.1 1 1 := hI1 1 1 rfl
  have m1_0 : w1.2.1 94 2 = w.2.1 94 2 := hI1 94 2 rfl
  have c1_1 : w1.2.1 1 0 = w.2.1 1 0 := hI1 1 0 rfl
  have m1_1 : w1.2.1 94 1 = w.2.1 94 1 := hI1 94 1 rfl
  have c1_2 : w1.2.1 41 0 = w.2.1 41 0 := hI1 41 0 rfl
  have m1_2 : w1.2.1 94 34 = w.2.1 94 34 := hI1 94 34 rfl
  have c1_3 : ∀ k, w1.2.1 42 k = w.2.1 42 k := fun k => hI1 42 k rfl
  have m1_3 : ∀ k, w1.2.1 122 k = w.2.1 122 k := fun k => hI1 122 k rfl
  have c1_4 : w1.2.1 47 3 = w.2.1 47 3 := hI1 47 3 rfl
  have m1_4 : w1.2.1 94 35 = w.2.1 94 35 := hI1 94 35 rfl
  have c1_5 : ∀ k, w1.2.1 48 k = w.2.1 48 k := fun k => hI1 48 k rfl
  have m1_5 : ∀ k, w1.2.1 123 k = w.2.1 123 k := fun k => hI1 123 k rfl
  have c1_6 : ∀ k, w1.2.1 49 k = w.2.1 49 k := fun k => hI1 49 k rfl
  have m1_6 : ∀ k, w1.2.1 124 k = w.2.1 124 k := fun k => hI1 124 k rfl
  have y1_7_0 : ∀ k, w1.2.1 5 k = w.2.1 5 k := fun k => hI1 5 k rfl
  have y1_7_1 : ∀ k, w1.2.1 98 k = w.2.1 98 k := fun k => hI1 98 k rfl
  have y1_7_2 : ∀ k, w1.2.1 8 k = w.2.1 8 k := fun k => hI1 8 k rfl
  have y1_7_3 : ∀ k, w1.2.1 102 k = w.2.1 102 k := fun k => hI1 102 k rfl
  have y1_7_4 : w1.2.1 1 1 = w.2.1 1 1 := hI1 1 1 rfl
  refine XW.fam (S' := (1918, [(3, .int i), (2, .ref 94), (1, .ref 0), (0, .retAddr 0)], [], w1)) (M := mr_371) rfl (show mcode 371 1917 = some (1917, .pop, 1, 0, 0, 0, _) from rfl) (Or.inr (Or.inr (Or.inr (Or.inr (Or.inr (Or.inl ⟨_, rfl, rfl⟩)))))) ?_
  refine XW.fam (S' := (1919, [(3, .int i), (2, .ref 94), (1, .ref 0), (0, .retAddr 0)], [.ref 94], w1)) (M := mr_371) rfl (show mcode 371 1918 = some (1918, .aload_n 2, 1, 0, 0, 0, _) from rfl) (Or.inl ⟨.ref 94, rfl, rfl⟩) ?_
  refine lw_ld (pc := 1919) (n := 1) rfl rfl rfl rfl rfl (by decide) hi0 hi1 hL ?_
  refine lw_ld (pc := 1924) (n := 2) rfl rfl rfl rfl rfl (by decide) hi0 hi1 hL ?_
  refine XW.call (d' := 41) (mc' := 0) (ms' := 0) (av := [.ref 94, .int (xs (i + Int32.ofInt 1).toNatClampNeg), .int (xs (i + Int32.ofInt 2).toNatClampNeg)]) (rest := []) (M := mr_371) (Ma := mr_361) rfl (show mcode 371 1929 = some (1929, .invokevirtual 218, 3, 361, 0, 0, _) from rfl) rfl (by decide) (by decide) ⟨rfl, 94, _, rfl, (iv_cell hw1).2⟩ rfl rfl (show _ ≤ 8 by decide) (kk_423 [.ref 94, .int (xs (i + Int32.ofInt 1).toNatClampNeg), .int (xs (i + Int32.ofInt 2).toNatClampNeg)] w1 hw1 ⟨rfl, any32 _, any32 _, trivial⟩ (fun q hq => by cases hq) hf1) (by decide) (by omega) (by omega) (fun r2 w2 hQ2 => ?_)
  obtain ⟨hf2, hw2, hI2, ⟨x2, rfl, -, -⟩, -⟩ := hQ2
  have c2_0 : w2.2.1 1 1 = w1.2.1 1 1 := hI2 1 1 rfl
  have m2_0 : w2.2.1 94 2 = w1.2.1 94 2 := hI2 94 2 rfl
  have c2_1 : w2.2.1 1 0 = w1.2.1 1 0 := hI2 1 0 rfl
  have m2_1 : w2.2.1 94 1 = w1.2.1 94 1 := hI2 94 1 rfl
  have c2_2 : w2.2.1 41 0 = w1.2.1 41 0 := hI2 41 0 rfl
  have m2_2 : w2.2.1 94 34 = w1.2.1 94 34 := hI2 94 34 rfl
  have c2_3 : ∀ k, w2.2.1 42 k = w1.2.1 42 k := fun k => hI2 42 k rfl
  have m2_3 : ∀ k, w2.2.1 122 k = w1.2.1 122 k := fun k => hI2 122 k rfl
  have c2_4 : w2.2.1 47 3 = w1.2.1 47 3 := hI2 47 3 rfl
  have m2_4 : w2.2.1 94 35 = w1.2.1 94 35 := hI2 94 35 rfl
  have c2_5 : ∀ k, w2.2.1 48 k = w1.2.1 48 k := fun k => hI2 48 k rfl
  have m2_5 : ∀ k, w2.2.1 123 k = w1.2.1 123 k := fun k => hI2 123 k rfl
  have c2_6 : ∀ k, w2.2.1 49 k = w1.2.1 49 k := fun k => hI2 49 k rfl
  have m2_6 : ∀ k, w2.2.1 124 k = w1.2.1 124 k := fun k => hI2 124 k rfl
  have y2_7_0 : ∀ k, w2.2.1 5 k = w1.2.1 5 k := fun k => hI2 5 k rfl
  have y2_7_1 : ∀ k, w2.2.1 98 k = w1.2.1 98 k := fun k => hI2 98 k rfl
  have y2_7_2 : ∀ k, w2.2.1 8 k = w1.2.1 8 k := fun k => hI2 8 k rfl
  have y2_7_3 : ∀ k, w2.2.1 102 k = w1.2.1 102 k := fun k => hI2 102 k rfl
  have y2_7_4 : w2.2.1 1 1 = w1.2.1 1 1 := hI2 1 1 rfl
  refine XW.fam (S' := (1933, [(3, .int i), (2, .ref 94), (1, .ref 0), (0, .retAddr 0)], [], w2)) (M := mr_371) rfl (show mcode 371 1932 = some (1932, .pop, 1, 0, 0, 0, _) from rfl) (Or.inr (Or.inr (Or.inr (Or.inr (Or.inr (Or.inl ⟨_, rfl, rfl⟩)))))) ?_
  refine XW.fam (S' := (2217, [(3, .int i), (2, .ref 94), (1, .ref 0), (0, .retAddr 0)], [], w2)) (M := mr_371) rfl (show mcode 371 1933 = some (1933, .goto 284, 3, 2217, 0, 0, _) from rfl) (Or.inr (Or.inl ⟨2217, [], rfl, rfl⟩)) ?_
  exact XW.wid (mc := mc) (ms := ms) (by omega) (by omega) (K w2 ⟨hf2, ⟨_, _, hw2⟩, ⟨(c2_0.trans c1_0).trans (hv.1.trans (m1_0.symm.trans m2_0.symm)), (c2_1.trans c1_1).trans (hv.2.1.trans (m1_1.symm.trans m2_1.symm)), (c2_2.trans c1_2).trans (hv.2.2.1.trans (m1_2.symm.trans m2_2.symm)), fun k => ((c2_3 k).trans (c1_3 k)).trans ((hv.2.2.2.1 k).trans ((m1_3 k).symm.trans (m2_3 k).symm)), (c2_4.trans c1_4).trans (hv.2.2.2.2.1.trans (m1_4.symm.trans m2_4.symm)), fun k => ((c2_5 k).trans (c1_5 k)).trans ((hv.2.2.2.2.2.1 k).trans ((m1_5 k).symm.trans (m2_5 k).symm)), fun k => ((c2_6 k).trans (c1_6 k)).trans ((hv.2.2.2.2.2.2.1 k).trans ((m1_6 k).symm.trans (m2_6 k).symm)), RLf_keep (fun k => (y2_7_0 k).trans (y1_7_0 k)) (fun k => (y2_7_1 k).trans (y1_7_1 k)) (fun k => (y2_7_2 k).trans (y1_7_2 k)) (fun k => (y2_7_3 k).trans (y1_7_3 k)) (y2_7_4.trans y1_7_4) hv.2.2.2.2.2.2.2⟩⟩)
set_option maxRecDepth 100000 in
theorem case_50 {Ln : Nat} {xs : Nat → Int32} {mc ms : Nat} {w : mW} {i : Int32} (hi0 : 0 ≤ i.toInt) (hi1 : i.toInt + 6 ≤ Ln) (hL : Ln ≤ 3072) (hV : IV w) (K : ∀ w', IV w' → XW 371 mr_371 (some (Ln, xs)) 91 mc ms Qone (2217, [(3, .int i), (2, .ref 94), (1, .ref 0), (0, .retAddr 0)], [], w')) : XW 371 mr_371 (some (Ln, xs)) 91 (mc + 1) (ms + 240) Qone (1936, [(3, .int i), (2, .ref 94), (1, .ref 0), (0, .retAddr 0)], [], w) := by
  obtain ⟨hf, ⟨sh, R, hw⟩, hv⟩ := hV
  refine XW.fam (S' := (1937, [(3, .int i), (2, .ref 94), (1, .ref 0), (0, .retAddr 0)], [.ref 0], w)) (M := mr_371) rfl (show mcode 371 1936 = some (1936, .aload_n 1, 1, 0, 0, 0, _) from rfl) (Or.inl ⟨.ref 0, rfl, rfl⟩) ?_
  refine lw_ld (pc := 1937) (n := 1) rfl rfl rfl rfl rfl (by decide) hi0 hi1 hL ?_
  refine lw_ld (pc := 1942) (n := 2) rfl rfl rfl rfl rfl (by decide) hi0 hi1 hL ?_
  refine lw_ld (pc := 1947) (n := 3) rfl rfl rfl rfl rfl (by decide) hi0 hi1 hL ?_
  refine XW.call (d' := 42) (mc' := 0) (ms' := 0) (av := [.ref 0, .int (xs (i + Int32.ofInt 1).toNatClampNeg), .int (xs (i + Int32.ofInt 2).toNatClampNeg), .int (xs (i + Int32.ofInt 3).toNatClampNeg)]) (rest := []) (M := mr_371) (Ma := mr_219) rfl (show mcode 371 1952 = some (1952, .invokevirtual 219, 3, 219, 0, 0, _) from rfl) rfl (by decide) (by decide) ⟨rfl, 0, _, rfl, (iv_cell hw).1⟩ rfl rfl (show _ ≤ 8 by decide) (kk_216 [.ref 0, .int (xs (i + Int32.ofInt 1).toNatClampNeg), .int (xs (i + Int32.ofInt 2).toNatClampNeg), .int (xs (i + Int32.ofInt 3).toNatClampNeg)] w hw ⟨rfl, any32 _, any32 _, any32 _, trivial⟩ (fun q hq => by cases hq) hf) (by decide) (by omega) (by omega) (fun r1 w1 hQ1 => ?_)
  obtain ⟨hf1, hw1, hI1, ⟨x1, rfl, -, -⟩, -⟩ := hQ1
  have c1_0 : w1.2.1 1 1 = w.2.1 1 1 := hI1 1 1 rfl
  have m1_0 : w1.2.1 94 2 = w.2.1 94 2 := hI1 94 2 rfl
  have c1_1 : w1.2.1 1 0 = w.2.1 1 0 := hI1 1 0 rfl
  have m1_1 : w1.2.1 94 1 = w.2.1 94 1 := hI1 94 1 rfl
  have c1_2 : w1.2.1 41 0 = w.2.1 41 0 := hI1 41 0 rfl
  have m1_2 : w1.2.1 94 34 = w.2.1 94 34 := hI1 94 34 rfl
  have c1_3 : ∀ k, w1.2.1 42 k = w.2.1 42 k := fun k => hI1 42 k rfl
  have m1_3 : ∀ k, w1.2.1 122 k = w.2.1 122 k := fun k => hI1 122 k rfl
  have c1_4 : w1.2.1 47 3 = w.2.1 47 3 := hI1 47 3 rfl
  have m1_4 : w1.2.1 94 35 = w.2.1 94 35 := hI1 94 35 rfl
  have c1_5 : ∀ k, w1.2.1 48 k = w.2.1 48 k := fun k => hI1 48 k rfl
  have m1_5 : ∀ k, w1.2.1 123 k = w.2.1 123 k := fun k => hI1 123 k rfl
  have c1_6 : ∀ k, w1.2.1 49 k = w.2.1 49 k := fun k => hI1 49 k rfl
  have m1_6 : ∀ k, w1.2.1 124 k = w.2.1 124 k := fun k => hI1 124 k rfl
  have y1_7_0 : ∀ k, w1.2.1 5 k = w.2.1 5 k := fun k => hI1 5 k rfl
  have y1_7_1 : ∀ k, w1.2.1 98 k = w.2.1 98 k := fun k => hI1 98 k rfl
  have y1_7_2 : ∀ k, w1.2.1 8 k = w.2.1 8 k := fun k => hI1 8 k rfl
  have y1_7_3 : ∀ k, w1.2.1 102 k = w.2.1 102 k := fun k => hI1 102 k rfl
  have y1_7_4 : w1.2.1 1 1 = w.2.1 1 1 := hI1 1 1 rfl
  refine XW.fam (S' := (1956, [(3, .int i), (2, .ref 94), (1, .ref 0), (0, .retAddr 0)], [], w1)) (M := mr_371) rfl (show mcode 371 1955 = some (1955, .pop, 1, 0, 0, 0, _) from rfl) (Or.inr (Or.inr (Or.inr (Or.inr (Or.inr (Or.inl ⟨_, rfl, rfl⟩)))))) ?_
  refine XW.fam (S' := (1957, [(3, .int i), (2, .ref 94), (1, .ref 0), (0, .retAddr 0)], [.ref 94], w1)) (M := mr_371) rfl (show mcode 371 1956 = some (1956, .aload_n 2, 1, 0, 0, 0, _) from rfl) (Or.inl ⟨.ref 94, rfl, rfl⟩) ?_
  refine lw_ld (pc := 1957) (n := 1) rfl rfl rfl rfl rfl (by decide) hi0 hi1 hL ?_
  refine lw_ld (pc := 1962) (n := 2) rfl rfl rfl rfl rfl (by decide) hi0 hi1 hL ?_
  refine lw_ld (pc := 1967) (n := 3) rfl rfl rfl rfl rfl (by decide) hi0 hi1 hL ?_
  refine XW.call (d' := 41) (mc' := 0) (ms' := 0) (av := [.ref 94, .int (xs (i + Int32.ofInt 1).toNatClampNeg), .int (xs (i + Int32.ofInt 2).toNatClampNeg), .int (xs (i + Int32.ofInt 3).toNatClampNeg)]) (rest := []) (M := mr_371) (Ma := mr_363) rfl (show mcode 371 1972 = some (1972, .invokevirtual 222, 3, 363, 0, 0, _) from rfl) rfl (by decide) (by decide) ⟨rfl, 94, _, rfl, (iv_cell hw1).2⟩ rfl rfl (show _ ≤ 8 by decide) (kk_424 [.ref 94, .int (xs (i + Int32.ofInt 1).toNatClampNeg), .int (xs (i + Int32.ofInt 2).toNatClampNeg), .int (xs (i + Int32.ofInt 3).toNatClampNeg)] w1 hw1 ⟨rfl, any32 _, any32 _, any32 _, trivial⟩ (fun q hq => by cases hq) hf1) (by decide) (by omega) (by omega) (fun r2 w2 hQ2 => ?_)
  obtain ⟨hf2, hw2, hI2, ⟨x2, rfl, -, -⟩, -⟩ := hQ2
  have c2_0 : w2.2.1 1 1 = w1.2.1 1 1 := hI2 1 1 rfl
  have m2_0 : w2.2.1 94 2 = w1.2.1 94 2 := hI2 94 2 rfl
  have c2_1 : w2.2.1 1 0 = w1.2.1 1 0 := hI2 1 0 rfl
  have m2_1 : w2.2.1 94 1 = w1.2.1 94 1 := hI2 94 1 rfl
  have c2_2 : w2.2.1 41 0 = w1.2.1 41 0 := hI2 41 0 rfl
  have m2_2 : w2.2.1 94 34 = w1.2.1 94 34 := hI2 94 34 rfl
  have c2_3 : ∀ k, w2.2.1 42 k = w1.2.1 42 k := fun k => hI2 42 k rfl
  have m2_3 : ∀ k, w2.2.1 122 k = w1.2.1 122 k := fun k => hI2 122 k rfl
  have c2_4 : w2.2.1 47 3 = w1.2.1 47 3 := hI2 47 3 rfl
  have m2_4 : w2.2.1 94 35 = w1.2.1 94 35 := hI2 94 35 rfl
  have c2_5 : ∀ k, w2.2.1 48 k = w1.2.1 48 k := fun k => hI2 48 k rfl
  have m2_5 : ∀ k, w2.2.1 123 k = w1.2.1 123 k := fun k => hI2 123 k rfl
  have c2_6 : ∀ k, w2.2.1 49 k = w1.2.1 49 k := fun k => hI2 49 k rfl
  have m2_6 : ∀ k, w2.2.1 124 k = w1.2.1 124 k := fun k => hI2 124 k rfl
  have y2_7_0 : ∀ k, w2.2.1 5 k = w1.2.1 5 k := fun k => hI2 5 k rfl
  have y2_7_1 : ∀ k, w2.2.1 98 k = w1.2.1 98 k := fun k => hI2 98 k rfl
  have y2_7_2 : ∀ k, w2.2.1 8 k = w1.2.1 8 k := fun k => hI2 8 k rfl
  have y2_7_3 : ∀ k, w2.2.1 102 k = w1.2.1 102 k := fun k => hI2 102 k rfl
  have y2_7_4 : w2.2.1 1 1 = w1.2.1 1 1 := hI2 1 1 rfl
  refine XW.fam (S' := (1976, [(3, .int i), (2, .ref 94), (1, .ref 0), (0, .retAddr 0)], [], w2)) (M := mr_371) rfl (show mcode 371 1975 = some (1975, .pop, 1, 0, 0, 0, _) from rfl) (Or.inr (Or.inr (Or.inr (Or.inr (Or.inr (Or.inl ⟨_, rfl, rfl⟩)))))) ?_
  refine XW.fam (S' := (2217, [(3, .int i), (2, .ref 94), (1, .ref 0), (0, .retAddr 0)], [], w2)) (M := mr_371) rfl (show mcode 371 1976 = some (1976, .goto 241, 3, 2217, 0, 0, _) from rfl) (Or.inr (Or.inl ⟨2217, [], rfl, rfl⟩)) ?_
  exact XW.wid (mc := mc) (ms := ms) (by omega) (by omega) (K w2 ⟨hf2, ⟨_, _, hw2⟩, ⟨(c2_0.trans c1_0).trans (hv.1.trans (m1_0.symm.trans m2_0.symm)), (c2_1.trans c1_1).trans (hv.2.1.trans (m1_1.symm.trans m2_1.symm)), (c2_2.trans c1_2).trans (hv.2.2.1.trans (m1_2.symm.trans m2_2.symm)), fun k => ((c2_3 k).trans (c1_3 k)).trans ((hv.2.2.2.1 k).trans ((m1_3 k).symm.trans (m2_3 k).symm)), (c2_4.trans c1_4).trans (hv.2.2.2.2.1.trans (m1_4.symm.trans m2_4.symm)), fun k => ((c2_5 k).trans (c1_5 k)).trans ((hv.2.2.2.2.2.1 k).trans ((m1_5 k).symm.trans (m2_5 k).symm)), fun k => ((c2_6 k).trans (c1_6 k)).trans ((hv.2.2.2.2.2.2.1 k).trans ((m1_6 k).symm.trans (m2_6 k).symm)), RLf_keep (fun k => (y2_7_0 k).trans (y1_7_0 k)) (fun k => (y2_7_1 k).trans (y1_7_1 k)) (fun k => (y2_7_2 k).trans (y1_7_2 k)) (fun k => (y2_7_3 k).trans (y1_7_3 k)) (y2_7_4.trans y1_7_4) hv.2.2.2.2.2.2.2⟩⟩)
set_option maxRecDepth 100000 in
theorem case_51 {Ln : Nat} {xs : Nat → Int32} {mc ms : Nat} {w : mW} {i : Int32} (hi0 : 0 ≤ i.toInt) (hi1 : i.toInt + 6 ≤ Ln) (hL : Ln ≤ 3072) (hV : IV w) (K : ∀ w', IV w' → XW 371 mr_371 (some (Ln, xs)) 91 mc ms Qone (2217, [(3, .int i), (2, .ref 94), (1, .ref 0), (0, .retAddr 0)], [], w')) : XW 371 mr_371 (some (Ln, xs)) 91 (mc + 1) (ms + 240) Qone (1979, [(3, .int i), (2, .ref 94), (1, .ref 0), (0, .retAddr 0)], [], w) := by
  obtain ⟨hf, ⟨sh, R, hw⟩, hv⟩ := hV
  refine XW.fam (S' := (1980, [(3, .int i), (2, .ref 94), (1, .ref 0), (0, .retAddr 0)], [.ref 0], w)) (M := mr_371) rfl (show mcode 371 1979 = some (1979, .aload_n 1, 1, 0, 0, 0, _) from rfl) (Or.inl ⟨.ref 0, rfl, rfl⟩) ?_
  refine lw_ld (pc := 1980) (n := 1) rfl rfl rfl rfl rfl (by decide) hi0 hi1 hL ?_
  refine lw_ld (pc := 1985) (n := 2) rfl rfl rfl rfl rfl (by decide) hi0 hi1 hL ?_
  refine lw_ld (pc := 1990) (n := 3) rfl rfl rfl rfl rfl (by decide) hi0 hi1 hL ?_
  refine XW.fam (M := mr_371) rfl (show mcode 371 1995 = some (1995, .i2l, 1, 0, 0, 0, _) from rfl) (Or.inr (Or.inr (Or.inr (Or.inr (Or.inr (Or.inl ⟨_, rfl, rfl⟩)))))) ?_
  generalize (xs _).toInt64 = y1
  refine XW.fam (S' := (1998, [(3, .int i), (2, .ref 94), (1, .ref 0), (0, .retAddr 0)], [.int 32, .long y1, .int (xs (i + Int32.ofInt 2).toNatClampNeg), .int (xs (i + Int32.ofInt 1).toNatClampNeg), .ref 0], w)) (M := mr_371) rfl (show mcode 371 1996 = some (1996, .bipush 32, 2, 0, 0, 0, _) from rfl) (Or.inl ⟨.int 32, rfl, rfl⟩) ?_
  refine lw_lop (pc := 1998) (ins := .lshl) rfl (Or.inl ⟨rfl, _, _, _, rfl, rfl⟩) (fun y2 => ?_)
  refine lw_ld (pc := 1999) (n := 4) rfl rfl rfl rfl rfl (by decide) hi0 hi1 hL ?_
  refine XW.fam (M := mr_371) rfl (show mcode 371 2004 = some (2004, .i2l, 1, 0, 0, 0, _) from rfl) (Or.inr (Or.inr (Or.inr (Or.inr (Or.inr (Or.inl ⟨_, rfl, rfl⟩)))))) ?_
  generalize (xs _).toInt64 = y3
  refine XW.fam (S' := (2008, [(3, .int i), (2, .ref 94), (1, .ref 0), (0, .retAddr 0)], [.long 4294967295, .long y3, .long y2, .int (xs (i + Int32.ofInt 2).toNatClampNeg), .int (xs (i + Int32.ofInt 1).toNatClampNeg), .ref 0], w)) (M := mr_371) rfl (show mcode 371 2005 = some (2005, .ldc2_w 223, 3, 0, 0, 4294967295, _) from rfl) (Or.inr (Or.inr (Or.inr (Or.inr (Or.inl ⟨.long 4294967295, rfl, rfl⟩))))) ?_
  refine lw_lop (pc := 2008) (ins := .land) rfl (Or.inr (Or.inl ⟨rfl, _, _, _, rfl, rfl⟩)) (fun y4 => ?_)
  refine lw_lop (pc := 2009) (ins := .lor) rfl (Or.inr (Or.inr ⟨rfl, _, _, _, rfl, rfl⟩)) (fun y5 => ?_)
  refine XW.call (d' := 41) (mc' := 0) (ms' := 0) (av := [.ref 0, .int (xs (i + Int32.ofInt 1).toNatClampNeg), .int (xs (i + Int32.ofInt 2).toNatClampNeg), .long y5]) (rest := []) (M := mr_371) (Ma := mr_221) rfl (show mcode 371 2010 = some (2010, .invokevirtual 225, 3, 221, 0, 0, _) from rfl) rfl (by decide) (by decide) ⟨rfl, 0, _, rfl, (iv_cell hw).1⟩ rfl rfl (show _ ≤ 8 by decide) (kk_217 [.ref 0, .int (xs (i + Int32.ofInt 1).toNatClampNeg), .int (xs (i + Int32.ofInt 2).toNatClampNeg), .long y5] w hw ⟨rfl, any32 _, any32 _, ⟨_, rfl⟩, trivial⟩ (fun q hq => by cases hq) hf) (by decide) (by omega) (by omega) (fun r1 w1 hQ1 => ?_)
  obtain ⟨hf1, hw1, hI1, ⟨x1, rfl, -, -⟩, -⟩ := hQ1
  have c1_0 : w1.2.1 1 1 = w.2.1 1 1 := hI1 1 1 rfl
  have m1_0 : w1.2.1 94 2 = w.2.1 94 2 := hI1 94 2 rfl
  have c1_1 : w1.2.1 1 0 = w.2.1 1 0 := hI1 1 0 rfl
  have m1_1 : w1.2.1 94 1 = w.2.1 94 1 := hI1 94 1 rfl
  have c1_2 : w1.2.1 41 0 = w.2.1 41 0 := hI1 41 0 rfl
  have m1_2 : w1.2.1 94 34 = w.2.1 94 34 := hI1 94 34 rfl
  have c1_3 : ∀ k, w1.2.1 42 k = w.2.1 42 k := fun k => hI1 42 k rfl
  have m1_3 : ∀ k, w1.2.1 122 k = w.2.1 122 k := fun k => hI1 122 k rfl
  have c1_4 : w1.2.1 47 3 = w.2.1 47 3 := hI1 47 3 rfl
  have m1_4 : w1.2.1 94 35 = w.2.1 94 35 := hI1 94 35 rfl
  have c1_5 : ∀ k, w1.2.1 48 k = w.2.1 48 k := fun k => hI1 48 k rfl
  have m1_5 : ∀ k, w1.2.1 123 k = w.2.1 123 k := fun k => hI1 123 k rfl
  have c1_6 : ∀ k, w1.2.1 49 k = w.2.1 49 k := fun k => hI1 49 k rfl
  have m1_6 : ∀ k, w1.2.1 124 k = w.2.1 124 k := fun k => hI1 124 k rfl
  have y1_7_0 : ∀ k, w1.2.1 5 k = w.2.1 5 k := fun k => hI1 5 k rfl
  have y1_7_1 : ∀ k, w1.2.1 98 k = w.2.1 98 k := fun k => hI1 98 k rfl
  have y1_7_2 : ∀ k, w1.2.1 8 k = w.2.1 8 k := fun k => hI1 8 k rfl
  have y1_7_3 : ∀ k, w1.2.1 102 k = w.2.1 102 k := fun k => hI1 102 k rfl
  have y1_7_4 : w1.2.1 1 1 = w.2.1 1 1 := hI1 1 1 rfl
  refine XW.fam (S' := (2014, [(3, .int i), (2, .ref 94), (1, .ref 0), (0, .retAddr 0)], [], w1)) (M := mr_371) rfl (show mcode 371 2013 = some (2013, .pop, 1, 0, 0, 0, _) from rfl) (Or.inr (Or.inr (Or.inr (Or.inr (Or.inr (Or.inl ⟨_, rfl, rfl⟩)))))) ?_
  refine XW.fam (S' := (2015, [(3, .int i), (2, .ref 94), (1, .ref 0), (0, .retAddr 0)], [.ref 94], w1)) (M := mr_371) rfl (show mcode 371 2014 = some (2014, .aload_n 2, 1, 0, 0, 0, _) from rfl) (Or.inl ⟨.ref 94, rfl, rfl⟩) ?_
  refine lw_ld (pc := 2015) (n := 1) rfl rfl rfl rfl rfl (by decide) hi0 hi1 hL ?_
  refine lw_ld (pc := 2020) (n := 2) rfl rfl rfl rfl rfl (by decide) hi0 hi1 hL ?_
  refine lw_ld (pc := 2025) (n := 3) rfl rfl rfl rfl rfl (by decide) hi0 hi1 hL ?_
  refine XW.fam (M := mr_371) rfl (show mcode 371 2030 = some (2030, .i2l, 1, 0, 0, 0, _) from rfl) (Or.inr (Or.inr (Or.inr (Or.inr (Or.inr (Or.inl ⟨_, rfl, rfl⟩)))))) ?_
  generalize (xs _).toInt64 = y6
  refine XW.fam (S' := (2033, [(3, .int i), (2, .ref 94), (1, .ref 0), (0, .retAddr 0)], [.int 32, .long y6, .int (xs (i + Int32.ofInt 2).toNatClampNeg), .int (xs (i + Int32.ofInt 1).toNatClampNeg), .ref 94], w1)) (M := mr_371) rfl (show mcode 371 2031 = some (2031, .bipush 32, 2, 0, 0, 0, _) from rfl) (Or.inl ⟨.int 32, rfl, rfl⟩) ?_
  refine lw_lop (pc := 2033) (ins := .lshl) rfl (Or.inl ⟨rfl, _, _, _, rfl, rfl⟩) (fun y7 => ?_)
  refine lw_ld (pc := 2034) (n := 4) rfl rfl rfl rfl rfl (by decide) hi0 hi1 hL ?_
  refine XW.fam (M := mr_371) rfl (show mcode 371 2039 = some (2039, .i2l, 1, 0, 0, 0, _) from rfl) (Or.inr (Or.inr (Or.inr (Or.inr (Or.inr (Or.inl ⟨_, rfl, rfl⟩)))))) ?_
  generalize (xs _).toInt64 = y8
  refine XW.fam (S' := (2043, [(3, .int i), (2, .ref 94), (1, .ref 0), (0, .retAddr 0)], [.long 4294967295, .long y8, .long y7, .int (xs (i + Int32.ofInt 2).toNatClampNeg), .int (xs (i + Int32.ofInt 1).toNatClampNeg), .ref 94], w1)) (M := mr_371) rfl (show mcode 371 2040 = some (2040, .ldc2_w 223, 3, 0, 0, 4294967295, _) from rfl) (Or.inr (Or.inr (Or.inr (Or.inr (Or.inl ⟨.long 4294967295, rfl, rfl⟩))))) ?_
  refine lw_lop (pc := 2043) (ins := .land) rfl (Or.inr (Or.inl ⟨rfl, _, _, _, rfl, rfl⟩)) (fun y9 => ?_)
  refine lw_lop (pc := 2044) (ins := .lor) rfl (Or.inr (Or.inr ⟨rfl, _, _, _, rfl, rfl⟩)) (fun y10 => ?_)
  refine XW.call (d' := 41) (mc' := 0) (ms' := 0) (av := [.ref 94, .int (xs (i + Int32.ofInt 1).toNatClampNeg), .int (xs (i + Int32.ofInt 2).toNatClampNeg), .long y10]) (rest := []) (M := mr_371) (Ma := mr_364) rfl (show mcode 371 2045 = some (2045, .invokevirtual 229, 3, 364, 0, 0, _) from rfl) rfl (by decide) (by decide) ⟨rfl, 94, _, rfl, (iv_cell hw1).2⟩ rfl rfl (show _ ≤ 8 by decide) (kk_425 [.ref 94, .int (xs (i + Int32.ofInt 1).toNatClampNeg), .int (xs (i + Int32.ofInt 2).toNatClampNeg), .long y10] w1 hw1 ⟨rfl, any32 _, any32 _, ⟨_, rfl⟩, trivial⟩ (fun q hq => by cases hq) hf1) (by decide) (by omega) (by omega) (fun r2 w2 hQ2 => ?_)
  obtain ⟨hf2, hw2, hI2, ⟨x2, rfl, -, -⟩, -⟩ := hQ2
  have c2_0 : w2.2.1 1 1 = w1.2.1 1 1 := hI2 1 1 rfl
  have m2_0 : w2.2.1 94 2 = w1.2.1 94 2 := hI2 94 2 rfl
  have c2_1 : w2.2.1 1 0 = w1.2.1 1 0 := hI2 1 0 rfl
  have m2_1 : w2.2.1 94 1 = w1.2.1 94 1 := hI2 94 1 rfl
  have c2_2 : w2.2.1 41 0 = w1.2.1 41 0 := hI2 41 0 rfl
  have m2_2 : w2.2.1 94 34 = w1.2.1 94 34 := hI2 94 34 rfl
  have c2_3 : ∀ k, w2.2.1 42 k = w1.2.1 42 k := fun k => hI2 42 k rfl
  have m2_3 : ∀ k, w2.2.1 122 k = w1.2.1 122 k := fun k => hI2 122 k rfl
  have c2_4 : w2.2.1 47 3 = w1.2.1 47 3 := hI2 47 3 rfl
  have m2_4 : w2.2.1 94 35 = w1.2.1 94 35 := hI2 94 35 rfl
  have c2_5 : ∀ k, w2.2.1 48 k = w1.2.1 48 k := fun k => hI2 48 k rfl
  have m2_5 : ∀ k, w2.2.1 123 k = w1.2.1 123 k := fun k => hI2 123 k rfl
  have c2_6 : ∀ k, w2.2.1 49 k = w1.2.1 49 k := fun k => hI2 49 k rfl
  have m2_6 : ∀ k, w2.2.1 124 k = w1.2.1 124 k := fun k => hI2 124 k rfl
  have y2_7_0 : ∀ k, w2.2.1 5 k = w1.2.1 5 k := fun k => hI2 5 k rfl
  have y2_7_1 : ∀ k, w2.2.1 98 k = w1.2.1 98 k := fun k => hI2 98 k rfl
  have y2_7_2 : ∀ k, w2.2.1 8 k = w1.2.1 8 k := fun k => hI2 8 k rfl
  have y2_7_3 : ∀ k, w2.2.1 102 k = w1.2.1 102 k := fun k => hI2 102 k rfl
  have y2_7_4 : w2.2.1 1 1 = w1.2.1 1 1 := hI2 1 1 rfl
  refine XW.fam (S' := (2049, [(3, .int i), (2, .ref 94), (1, .ref 0), (0, .retAddr 0)], [], w2)) (M := mr_371) rfl (show mcode 371 2048 = some (2048, .pop, 1, 0, 0, 0, _) from rfl) (Or.inr (Or.inr (Or.inr (Or.inr (Or.inr (Or.inl ⟨_, rfl, rfl⟩)))))) ?_
  refine XW.fam (S' := (2217, [(3, .int i), (2, .ref 94), (1, .ref 0), (0, .retAddr 0)], [], w2)) (M := mr_371) rfl (show mcode 371 2049 = some (2049, .goto 168, 3, 2217, 0, 0, _) from rfl) (Or.inr (Or.inl ⟨2217, [], rfl, rfl⟩)) ?_
  exact XW.wid (mc := mc) (ms := ms) (by omega) (by omega) (K w2 ⟨hf2, ⟨_, _, hw2⟩, ⟨(c2_0.trans c1_0).trans (hv.1.trans (m1_0.symm.trans m2_0.symm)), (c2_1.trans c1_1).trans (hv.2.1.trans (m1_1.symm.trans m2_1.symm)), (c2_2.trans c1_2).trans (hv.2.2.1.trans (m1_2.symm.trans m2_2.symm)), fun k => ((c2_3 k).trans (c1_3 k)).trans ((hv.2.2.2.1 k).trans ((m1_3 k).symm.trans (m2_3 k).symm)), (c2_4.trans c1_4).trans (hv.2.2.2.2.1.trans (m1_4.symm.trans m2_4.symm)), fun k => ((c2_5 k).trans (c1_5 k)).trans ((hv.2.2.2.2.2.1 k).trans ((m1_5 k).symm.trans (m2_5 k).symm)), fun k => ((c2_6 k).trans (c1_6 k)).trans ((hv.2.2.2.2.2.2.1 k).trans ((m1_6 k).symm.trans (m2_6 k).symm)), RLf_keep (fun k => (y2_7_0 k).trans (y1_7_0 k)) (fun k => (y2_7_1 k).trans (y1_7_1 k)) (fun k => (y2_7_2 k).trans (y1_7_2 k)) (fun k => (y2_7_3 k).trans (y1_7_3 k)) (y2_7_4.trans y1_7_4) hv.2.2.2.2.2.2.2⟩⟩)
set_option maxRecDepth 100000 in
theorem case_52 {Ln : Nat} {xs : Nat → Int32} {mc ms : Nat} {w : mW} {i : Int32} (hi0 : 0 ≤ i.toInt) (hi1 : i.toInt + 6 ≤ Ln) (hL : Ln ≤ 3072) (hV : IV w) (K : ∀ w', IV w' → XW 371 mr_371 (some (Ln, xs)) 91 mc ms Qone (2217, [(3, .int i), (2, .ref 94), (1, .ref 0), (0, .retAddr 0)], [], w')) : XW 371 mr_371 (some (Ln, xs)) 91 (mc + 1) (ms + 240) Qone (2052, [(3, .int i), (2, .ref 94), (1, .ref 0), (0, .retAddr 0)], [], w) := by
  obtain ⟨hf, ⟨sh, R, hw⟩, hv⟩ := hV
  refine XW.fam (S' := (2053, [(3, .int i), (2, .ref 94), (1, .ref 0), (0, .retAddr 0)], [.ref 0], w)) (M := mr_371) rfl (show mcode 371 2052 = some (2052, .aload_n 1, 1, 0, 0, 0, _) from rfl) (Or.inl ⟨.ref 0, rfl, rfl⟩) ?_
  refine lw_ld (pc := 2053) (n := 1) rfl rfl rfl rfl rfl (by decide) hi0 hi1 hL ?_
  refine lw_ld (pc := 2058) (n := 2) rfl rfl rfl rfl rfl (by decide) hi0 hi1 hL ?_
  refine XW.call (d' := 41) (mc' := 0) (ms' := 0) (av := [.ref 0, .int (xs (i + Int32.ofInt 1).toNatClampNeg), .int (xs (i + Int32.ofInt 2).toNatClampNeg)]) (rest := []) (M := mr_371) (Ma := mr_224) rfl (show mcode 371 2063 = some (2063, .invokevirtual 230, 3, 224, 0, 0, _) from rfl) rfl (by decide) (by decide) ⟨rfl, 0, _, rfl, (iv_cell hw).1⟩ rfl rfl (show _ ≤ 8 by decide) (kk_218 [.ref 0, .int (xs (i + Int32.ofInt 1).toNatClampNeg), .int (xs (i + Int32.ofInt 2).toNatClampNeg)] w hw ⟨rfl, any32 _, any32 _, trivial⟩ (fun q hq => by cases hq) hf) (by decide) (by omega) (by omega) (fun r1 w1 hQ1 => ?_)
  obtain ⟨hf1, hw1, hI1, ⟨x1, rfl⟩, -⟩ := hQ1
  have c1_0 : w1.2.1 1 1 = w.2.1 1 1 := hI1 1 1 rfl
  have m1_0 : w1.2.1 94 2 = w.2.1 94 2 := hI1 94 2 rfl
  have c1_1 : w1.2.1 1 0 = w.2.1 1 0 := hI1 1 0 rfl
  have m1_1 : w1.2.1 94 1 = w.2.1 94 1 := hI1 94 1 rfl
  have c1_2 : w1.2.1 41 0 = w.2.1 41 0 := hI1 41 0 rfl
  have m1_2 : w1.2.1 94 34 = w.2.1 94 34 := hI1 94 34 rfl
  have c1_3 : ∀ k, w1.2.1 42 k = w.2.1 42 k := fun k => hI1 42 k rfl
  have m1_3 : ∀ k, w1.2.1 122 k = w.2.1 122 k := fun k => hI1 122 k rfl
  have c1_4 : w1.2.1 47 3 = w.2.1 47 3 := hI1 47 3 rfl
  have m1_4 : w1.2.1 94 35 = w.2.1 94 35 := hI1 94 35 rfl
  have c1_5 : ∀ k, w1.2.1 48 k = w.2.1 48 k := fun k => hI1 48 k rfl
  have m1_5 : ∀ k, w1.2.1 123 k = w.2.1 123 k := fun k => hI1 123 k rfl
  have c1_6 : ∀ k, w1.2.1 49 k = w.2.1 49 k := fun k => hI1 49 k rfl
  have m1_6 : ∀ k, w1.2.1 124 k = w.2.1 124 k := fun k => hI1 124 k rfl
  have y1_7_0 : ∀ k, w1.2.1 5 k = w.2.1 5 k := fun k => hI1 5 k rfl
  have y1_7_1 : ∀ k, w1.2.1 98 k = w.2.1 98 k := fun k => hI1 98 k rfl
  have y1_7_2 : ∀ k, w1.2.1 8 k = w.2.1 8 k := fun k => hI1 8 k rfl
  have y1_7_3 : ∀ k, w1.2.1 102 k = w.2.1 102 k := fun k => hI1 102 k rfl
  have y1_7_4 : w1.2.1 1 1 = w.2.1 1 1 := hI1 1 1 rfl
  refine XW.fam (S' := (2067, [(3, .int i), (2, .ref 94), (1, .ref 0), (0, .retAddr 0)], [], w1)) (M := mr_371) rfl (show mcode 371 2066 = some (2066, .pop2, 1, 0, 0, 0, _) from rfl) (Or.inr (Or.inr (Or.inr (Or.inr (Or.inr (Or.inl ⟨_, rfl, rfl⟩)))))) ?_
  refine XW.fam (S' := (2068, [(3, .int i), (2, .ref 94), (1, .ref 0), (0, .retAddr 0)], [.ref 94], w1)) (M := mr_371) rfl (show mcode 371 2067 = some (2067, .aload_n 2, 1, 0, 0, 0, _) from rfl) (Or.inl ⟨.ref 94, rfl, rfl⟩) ?_
  refine lw_ld (pc := 2068) (n := 1) rfl rfl rfl rfl rfl (by decide) hi0 hi1 hL ?_
  refine lw_ld (pc := 2073) (n := 2) rfl rfl rfl rfl rfl (by decide) hi0 hi1 hL ?_
  refine XW.call (d' := 41) (mc' := 0) (ms' := 0) (av := [.ref 94, .int (xs (i + Int32.ofInt 1).toNatClampNeg), .int (xs (i + Int32.ofInt 2).toNatClampNeg)]) (rest := []) (M := mr_371) (Ma := mr_366) rfl (show mcode 371 2078 = some (2078, .invokevirtual 234, 3, 366, 0, 0, _) from rfl) rfl (by decide) (by decide) ⟨rfl, 94, _, rfl, (iv_cell hw1).2⟩ rfl rfl (show _ ≤ 8 by decide) (kk_426 [.ref 94, .int (xs (i + Int32.ofInt 1).toNatClampNeg), .int (xs (i + Int32.ofInt 2).toNatClampNeg)] w1 hw1 ⟨rfl, any32 _, any32 _, trivial⟩ (fun q hq => by cases hq) hf1) (by decide) (by omega) (by omega) (fun r2 w2 hQ2 => ?_)
  obtain ⟨hf2, hw2, hI2, ⟨x2, rfl⟩, -⟩ := hQ2
  have c2_0 : w2.2.1 1 1 = w1.2.1 1 1 := hI2 1 1 rfl
  have m2_0 : w2.2.1 94 2 = w1.2.1 94 2 := hI2 94 2 rfl
  have c2_1 : w2.2.1 1 0 = w1.2.1 1 0 := hI2 1 0 rfl
  have m2_1 : w2.2.1 94 1 = w1.2.1 94 1 := hI2 94 1 rfl
  have c2_2 : w2.2.1 41 0 = w1.2.1 41 0 := hI2 41 0 rfl
  have m2_2 : w2.2.1 94 34 = w1.2.1 94 34 := hI2 94 34 rfl
  have c2_3 : ∀ k, w2.2.1 42 k = w1.2.1 42 k := fun k => hI2 42 k rfl
  have m2_3 : ∀ k, w2.2.1 122 k = w1.2.1 122 k := fun k => hI2 122 k rfl
  have c2_4 : w2.2.1 47 3 = w1.2.1 47 3 := hI2 47 3 rfl
  have m2_4 : w2.2.1 94 35 = w1.2.1 94 35 := hI2 94 35 rfl
  have c2_5 : ∀ k, w2.2.1 48 k = w1.2.1 48 k := fun k => hI2 48 k rfl
  have m2_5 : ∀ k, w2.2.1 123 k = w1.2.1 123 k := fun k => hI2 123 k rfl
  have c2_6 : ∀ k, w2.2.1 49 k = w1.2.1 49 k := fun k => hI2 49 k rfl
  have m2_6 : ∀ k, w2.2.1 124 k = w1.2.1 124 k := fun k => hI2 124 k rfl
  have y2_7_0 : ∀ k, w2.2.1 5 k = w1.2.1 5 k := fun k => hI2 5 k rfl
  have y2_7_1 : ∀ k, w2.2.1 98 k = w1.2.1 98 k := fun k => hI2 98 k rfl
  have y2_7_2 : ∀ k, w2.2.1 8 k = w1.2.1 8 k := fun k => hI2 8 k rfl
  have y2_7_3 : ∀ k, w2.2.1 102 k = w1.2.1 102 k := fun k => hI2 102 k rfl
  have y2_7_4 : w2.2.1 1 1 = w1.2.1 1 1 := hI2 1 1 rfl
  refine XW.fam (S' := (2082, [(3, .int i), (2, .ref 94), (1, .ref 0), (0, .retAddr 0)], [], w2)) (M := mr_371) rfl (show mcode 371 2081 = some (2081, .pop2, 1, 0, 0, 0, _) from rfl) (Or.inr (Or.inr (Or.inr (Or.inr (Or.inr (Or.inl ⟨_, rfl, rfl⟩)))))) ?_
  refine XW.fam (S' := (2217, [(3, .int i), (2, .ref 94), (1, .ref 0), (0, .retAddr 0)], [], w2)) (M := mr_371) rfl (show mcode 371 2082 = some (2082, .goto 135, 3, 2217, 0, 0, _) from rfl) (Or.inr (Or.inl ⟨2217, [], rfl, rfl⟩)) ?_
  exact XW.wid (mc := mc) (ms := ms) (by omega) (by omega) (K w2 ⟨hf2, ⟨_, _, hw2⟩, ⟨(c2_0.trans c1_0).trans (hv.1.trans (m1_0.symm.trans m2_0.symm)), (c2_1.trans c1_1).trans (hv.2.1.trans (m1_1.symm.trans m2_1.symm)), (c2_2.trans c1_2).trans (hv.2.2.1.trans (m1_2.symm.trans m2_2.symm)), fun k => ((c2_3 k).trans (c1_3 k)).trans ((hv.2.2.2.1 k).trans ((m1_3 k).symm.trans (m2_3 k).symm)), (c2_4.trans c1_4).trans (hv.2.2.2.2.1.trans (m1_4.symm.trans m2_4.symm)), fun k => ((c2_5 k).trans (c1_5 k)).trans ((hv.2.2.2.2.2.1 k).trans ((m1_5 k).symm.trans (m2_5 k).symm)), fun k => ((c2_6 k).trans (c1_6 k)).trans ((hv.2.2.2.2.2.2.1 k).trans ((m1_6 k).symm.trans (m2_6 k).symm)), RLf_keep (fun k => (y2_7_0 k).trans (y1_7_0 k)) (fun k => (y2_7_1 k).trans (y1_7_1 k)) (fun k => (y2_7_2 k).trans (y1_7_2 k)) (fun k => (y2_7_3 k).trans (y1_7_3 k)) (y2_7_4.trans y1_7_4) hv.2.2.2.2.2.2.2⟩⟩)
set_option maxRecDepth 100000 in
theorem case_53 {Ln : Nat} {xs : Nat → Int32} {mc ms : Nat} {w : mW} {i : Int32} (hi0 : 0 ≤ i.toInt) (hi1 : i.toInt + 6 ≤ Ln) (hL : Ln ≤ 3072) (hV : IV w) (K : ∀ w', IV w' → XW 371 mr_371 (some (Ln, xs)) 91 mc ms Qone (2217, [(3, .int i), (2, .ref 94), (1, .ref 0), (0, .retAddr 0)], [], w')) : XW 371 mr_371 (some (Ln, xs)) 91 (mc + 1) (ms + 240) Qone (2085, [(3, .int i), (2, .ref 94), (1, .ref 0), (0, .retAddr 0)], [], w) := by
  obtain ⟨hf, ⟨sh, R, hw⟩, hv⟩ := hV
  refine XW.fam (S' := (2086, [(3, .int i), (2, .ref 94), (1, .ref 0), (0, .retAddr 0)], [.ref 0], w)) (M := mr_371) rfl (show mcode 371 2085 = some (2085, .aload_n 1, 1, 0, 0, 0, _) from rfl) (Or.inl ⟨.ref 0, rfl, rfl⟩) ?_
  refine lw_ld (pc := 2086) (n := 1) rfl rfl rfl rfl rfl (by decide) hi0 hi1 hL ?_
  refine lw_ld (pc := 2091) (n := 2) rfl rfl rfl rfl rfl (by decide) hi0 hi1 hL ?_
  refine lw_ld (pc := 2096) (n := 3) rfl rfl rfl rfl rfl (by decide) hi0 hi1 hL ?_
  refine lw_ld (pc := 2101) (n := 4) rfl rfl rfl rfl rfl (by decide) hi0 hi1 hL ?_
  refine lw_ld (pc := 2106) (n := 5) rfl rfl rfl rfl rfl (by decide) hi0 hi1 hL ?_
  refine XW.call (d' := 42) (mc' := 0) (ms' := 0) (av := [.ref 0, .int (xs (i + Int32.ofInt 1).toNatClampNeg), .int (xs (i + Int32.ofInt 2).toNatClampNeg), .int (xs (i + Int32.ofInt 3).toNatClampNeg), .int (xs (i + Int32.ofInt 4).toNatClampNeg), .int (xs (i + Int32.ofInt 5).toNatClampNeg)]) (rest := []) (M := mr_371) (Ma := mr_225) rfl (show mcode 371 2111 = some (2111, .invokevirtual 235, 3, 225, 0, 0, _) from rfl) rfl (by decide) (by decide) ⟨rfl, 0, _, rfl, (iv_cell hw).1⟩ rfl rfl (show _ ≤ 8 by decide) (kk_220 [.ref 0, .int (xs (i + Int32.ofInt 1).toNatClampNeg), .int (xs (i + Int32.ofInt 2).toNatClampNeg), .int (xs (i + Int32.ofInt 3).toNatClampNeg), .int (xs (i + Int32.ofInt 4).toNatClampNeg), .int (xs (i + Int32.ofInt 5).toNatClampNeg)] w hw ⟨rfl, any32 _, any32 _, any32 _, any32 _, any32 _, trivial⟩ (fun q hq => by cases hq) hf) (by decide) (by omega) (by omega) (fun r1 w1 hQ1 => ?_)
  obtain ⟨hf1, hw1, hI1, ⟨x1, rfl, -, -⟩, -⟩ := hQ1
  have c1_0 : w1.2.1 1 1 = w.2.1 1 1 := hI1 1 1 rfl
  have m1_0 : w1.2.1 94 2 = w.2.1 94 2 := hI1 94 2 rfl
  have c1_1 : w1.2.1 1 0 = w.2.1 1 0 := hI1 1 0 rfl
  have m1_1 : w1.2.1 94 1 = w.2.1 94 1 := hI1 94 1 rfl
  have c1_2 : w1.2.1 41 0 = w.2.1 41 0 := hI1 41 0 rfl
  have m1_2 : w1.2.1 94 34 = w.2.1 94 34 := hI1 94 34 rfl
  have c1_3 : ∀ k, w1.2.1 42 k = w.2.1 42 k := fun k => hI1 42 k rfl
  have m1_3 : ∀ k, w1.2.1 122 k = w.2.1 122 k := fun k => hI1 122 k rfl
  have c1_4 : w1.2.1 47 3 = w.2.1 47 3 := hI1 47 3 rfl
  have m1_4 : w1.2.1 94 35 = w.2.1 94 35 := hI1 94 35 rfl
  have c1_5 : ∀ k, w1.2.1 48 k = w.2.1 48 k := fun k => hI1 48 k rfl
  have m1_5 : ∀ k, w1.2.1 123 k = w.2.1 123 k := fun k => hI1 123 k rfl
  have c1_6 : ∀ k, w1.2.1 49 k = w.2.1 49 k := fun k => hI1 49 k rfl
  have m1_6 : ∀ k, w1.2.1 124 k = w.2.1 124 k := fun k => hI1 124 k rfl
  have y1_7_0 : ∀ k, w1.2.1 5 k = w.2.1 5 k := fun k => hI1 5 k rfl
  have y1_7_1 : ∀ k, w1.2.1 98 k = w.2.1 98 k := fun k => hI1 98 k rfl
  have y1_7_2 : ∀ k, w1.2.1 8 k = w.2.1 8 k := fun k => hI1 8 k rfl
  have y1_7_3 : ∀ k, w1.2.1 102 k = w.2.1 102 k := fun k => hI1 102 k rfl
  have y1_7_4 : w1.2.1 1 1 = w.2.1 1 1 := hI1 1 1 rfl
  refine XW.fam (S' := (2115, [(3, .int i), (2, .ref 94), (1, .ref 0), (0, .retAddr 0)], [], w1)) (M := mr_371) rfl (show mcode 371 2114 = some (2114, .pop, 1, 0, 0, 0, _) from rfl) (Or.inr (Or.inr (Or.inr (Or.inr (Or.inr (Or.inl ⟨_, rfl, rfl⟩)))))) ?_
  refine XW.fam (S' := (2116, [(3, .int i), (2, .ref 94), (1, .ref 0), (0, .retAddr 0)], [.ref 94], w1)) (M := mr_371) rfl (show mcode 371 2115 = some (2115, .aload_n 2, 1, 0, 0, 0, _) from rfl) (Or.inl ⟨.ref 94, rfl, rfl⟩) ?_
  refine lw_ld (pc := 2116) (n := 1) rfl rfl rfl rfl rfl (by decide) hi0 hi1 hL ?_
  refine lw_ld (pc := 2121) (n := 2) rfl rfl rfl rfl rfl (by decide) hi0 hi1 hL ?_
  refine lw_ld (pc := 2126) (n := 3) rfl rfl rfl rfl rfl (by decide) hi0 hi1 hL ?_
  refine lw_ld (pc := 2131) (n := 4) rfl rfl rfl rfl rfl (by decide) hi0 hi1 hL ?_
  refine lw_ld (pc := 2136) (n := 5) rfl rfl rfl rfl rfl (by decide) hi0 hi1 hL ?_
  refine XW.call (d' := 41) (mc' := 0) (ms' := 0) (av := [.ref 94, .int (xs (i + Int32.ofInt 1).toNatClampNeg), .int (xs (i + Int32.ofInt 2).toNatClampNeg), .int (xs (i + Int32.ofInt 3).toNatClampNeg), .int (xs (i + Int32.ofInt 4).toNatClampNeg), .int (xs (i + Int32.ofInt 5).toNatClampNeg)]) (rest := []) (M := mr_371) (Ma := mr_367) rfl (show mcode 371 2141 = some (2141, .invokevirtual 238, 3, 367, 0, 0, _) from rfl) rfl (by decide) (by decide) ⟨rfl, 94, _, rfl, (iv_cell hw1).2⟩ rfl rfl (show _ ≤ 8 by decide) (kk_427 [.ref 94, .int (xs (i + Int32.ofInt 1).toNatClampNeg), .int (xs (i + Int32.ofInt 2).toNatClampNeg), .int (xs (i + Int32.ofInt 3).toNatClampNeg), .int (xs (i + Int32.ofInt 4).toNatClampNeg), .int (xs (i + Int32.ofInt 5).toNatClampNeg)] w1 hw1 ⟨rfl, any32 _, any32 _, any32 _, any32 _, any32 _, trivial⟩ (fun q hq => by cases hq) hf1) (by decide) (by omega) (by omega) (fun r2 w2 hQ2 => ?_)
  obtain ⟨hf2, hw2, hI2, ⟨x2, rfl, -, -⟩, -⟩ := hQ2
  have c2_0 : w2.2.1 1 1 = w1.2.1 1 1 := hI2 1 1 rfl
  have m2_0 : w2.2.1 94 2 = w1.2.1 94 2 := hI2 94 2 rfl
  have c2_1 : w2.2.1 1 0 = w1.2.1 1 0 := hI2 1 0 rfl
  have m2_1 : w2.2.1 94 1 = w1.2.1 94 1 := hI2 94 1 rfl
  have c2_2 : w2.2.1 41 0 = w1.2.1 41 0 := hI2 41 0 rfl
  have m2_2 : w2.2.1 94 34 = w1.2.1 94 34 := hI2 94 34 rfl
  have c2_3 : ∀ k, w2.2.1 42 k = w1.2.1 42 k := fun k => hI2 42 k rfl
  have m2_3 : ∀ k, w2.2.1 122 k = w1.2.1 122 k := fun k => hI2 122 k rfl
  have c2_4 : w2.2.1 47 3 = w1.2.1 47 3 := hI2 47 3 rfl
  have m2_4 : w2.2.1 94 35 = w1.2.1 94 35 := hI2 94 35 rfl
  have c2_5 : ∀ k, w2.2.1 48 k = w1.2.1 48 k := fun k => hI2 48 k rfl
  have m2_5 : ∀ k, w2.2.1 123 k = w1.2.1 123 k := fun k => hI2 123 k rfl
  have c2_6 : ∀ k, w2.2.1 49 k = w1.2.1 49 k := fun k => hI2 49 k rfl
  have m2_6 : ∀ k, w2.2.1 124 k = w1.2.1 124 k := fun k => hI2 124 k rfl
  have y2_7_0 : ∀ k, w2.2.1 5 k = w1.2.1 5 k := fun k => hI2 5 k rfl
  have y2_7_1 : ∀ k, w2.2.1 98 k = w1.2.1 98 k := fun k => hI2 98 k rfl
  have y2_7_2 : ∀ k, w2.2.1 8 k = w1.2.1 8 k := fun k => hI2 8 k rfl
  have y2_7_3 : ∀ k, w2.2.1 102 k = w1.2.1 102 k := fun k => hI2 102 k rfl
  have y2_7_4 : w2.2.1 1 1 = w1.2.1 1 1 := hI2 1 1 rfl
  refine XW.fam (S' := (2145, [(3, .int i), (2, .ref 94), (1, .ref 0), (0, .retAddr 0)], [], w2)) (M := mr_371) rfl (show mcode 371 2144 = some (2144, .pop, 1, 0, 0, 0, _) from rfl) (Or.inr (Or.inr (Or.inr (Or.inr (Or.inr (Or.inl ⟨_, rfl, rfl⟩)))))) ?_
  refine XW.fam (S' := (2217, [(3, .int i), (2, .ref 94), (1, .ref 0), (0, .retAddr 0)], [], w2)) (M := mr_371) rfl (show mcode 371 2145 = some (2145, .goto 72, 3, 2217, 0, 0, _) from rfl) (Or.inr (Or.inl ⟨2217, [], rfl, rfl⟩)) ?_
  exact XW.wid (mc := mc) (ms := ms) (by omega) (by omega) (K w2 ⟨hf2, ⟨_, _, hw2⟩, ⟨(c2_0.trans c1_0).trans (hv.1.trans (m1_0.symm.trans m2_0.symm)), (c2_1.trans c1_1).trans (hv.2.1.trans (m1_1.symm.trans m2_1.symm)), (c2_2.trans c1_2).trans (hv.2.2.1.trans (m1_2.symm.trans m2_2.symm)), fun k => ((c2_3 k).trans (c1_3 k)).trans ((hv.2.2.2.1 k).trans ((m1_3 k).symm.trans (m2_3 k).symm)), (c2_4.trans c1_4).trans (hv.2.2.2.2.1.trans (m1_4.symm.trans m2_4.symm)), fun k => ((c2_5 k).trans (c1_5 k)).trans ((hv.2.2.2.2.2.1 k).trans ((m1_5 k).symm.trans (m2_5 k).symm)), fun k => ((c2_6 k).trans (c1_6 k)).trans ((hv.2.2.2.2.2.2.1 k).trans ((m1_6 k).symm.trans (m2_6 k).symm)), RLf_keep (fun k => (y2_7_0 k).trans (y1_7_0 k)) (fun k => (y2_7_1 k).trans (y1_7_1 k)) (fun k => (y2_7_2 k).trans (y1_7_2 k)) (fun k => (y2_7_3 k).trans (y1_7_3 k)) (y2_7_4.trans y1_7_4) hv.2.2.2.2.2.2.2⟩⟩)
set_option maxRecDepth 100000 in
theorem case_54 {Ln : Nat} {xs : Nat → Int32} {mc ms : Nat} {w : mW} {i : Int32} (hi0 : 0 ≤ i.toInt) (hi1 : i.toInt + 6 ≤ Ln) (hL : Ln ≤ 3072) (hV : IV w) (K : ∀ w', IV w' → XW 371 mr_371 (some (Ln, xs)) 91 mc ms Qone (2217, [(3, .int i), (2, .ref 94), (1, .ref 0), (0, .retAddr 0)], [], w')) : XW 371 mr_371 (some (Ln, xs)) 91 (mc + 1) (ms + 240) Qone (2148, [(3, .int i), (2, .ref 94), (1, .ref 0), (0, .retAddr 0)], [], w) := by
  obtain ⟨hf, ⟨sh, R, hw⟩, hv⟩ := hV
  refine XW.fam (S' := (2149, [(3, .int i), (2, .ref 94), (1, .ref 0), (0, .retAddr 0)], [.ref 0], w)) (M := mr_371) rfl (show mcode 371 2148 = some (2148, .aload_n 1, 1, 0, 0, 0, _) from rfl) (Or.inl ⟨.ref 0, rfl, rfl⟩) ?_
  refine lw_ld (pc := 2149) (n := 1) rfl rfl rfl rfl rfl (by decide) hi0 hi1 hL ?_
  refine lw_ld (pc := 2154) (n := 2) rfl rfl rfl rfl rfl (by decide) hi0 hi1 hL ?_
  refine XW.call (d' := 41) (mc' := 0) (ms' := 0) (av := [.ref 0, .int (xs (i + Int32.ofInt 1).toNatClampNeg), .int (xs (i + Int32.ofInt 2).toNatClampNeg)]) (rest := []) (M := mr_371) (Ma := mr_227) rfl (show mcode 371 2159 = some (2159, .invokevirtual 239, 3, 227, 0, 0, _) from rfl) rfl (by decide) (by decide) ⟨rfl, 0, _, rfl, (iv_cell hw).1⟩ rfl rfl (show _ ≤ 8 by decide) (kk_221 [.ref 0, .int (xs (i + Int32.ofInt 1).toNatClampNeg), .int (xs (i + Int32.ofInt 2).toNatClampNeg)] w hw ⟨rfl, any32 _, any32 _, trivial⟩ (fun q hq => by cases hq) hf) (by decide) (by omega) (by omega) (fun r1 w1 hQ1 => ?_)
  obtain ⟨hf1, hw1, hI1, ⟨x1, rfl, -, -⟩, -⟩ := hQ1
  have c1_0 : w1.2.1 1 1 = w.2.1 1 1 := hI1 1 1 rfl
  have m1_0 : w1.2.1 94 2 = w.2.1 94 2 := hI1 94 2 rfl
  have c1_1 : w1.2.1 1 0 = w.2.1 1 0 := hI1 1 0 rfl
  have m1_1 : w1.2.1 94 1 = w.2.1 94 1 := hI1 94 1 rfl
  have c1_2 : w1.2.1 41 0 = w.2.1 41 0 := hI1 41 0 rfl
  have m1_2 : w1.2.1 94 34 = w.2.1 94 34 := hI1 94 34 rfl
  have c1_3 : ∀ k, w1.2.1 42 k = w.2.1 42 k := fun k => hI1 42 k rfl
  have m1_3 : ∀ k, w1.2.1 122 k = w.2.1 122 k := fun k => hI1 122 k rfl
  have c1_4 : w1.2.1 47 3 = w.2.1 47 3 := hI1 47 3 rfl
  have m1_4 : w1.2.1 94 35 = w.2.1 94 35 := hI1 94 35 rfl
  have c1_5 : ∀ k, w1.2.1 48 k = w.2.1 48 k := fun k => hI1 48 k rfl
  have m1_5 : ∀ k, w1.2.1 123 k = w.2.1 123 k := fun k => hI1 123 k rfl
  have c1_6 : ∀ k, w1.2.1 49 k = w.2.1 49 k := fun k => hI1 49 k rfl
  have m1_6 : ∀ k, w1.2.1 124 k = w.2.1 124 k := fun k => hI1 124 k rfl
  have y1_7_0 : ∀ k, w1.2.1 5 k = w.2.1 5 k := fun k => hI1 5 k rfl
  have y1_7_1 : ∀ k, w1.2.1 98 k = w.2.1 98 k := fun k => hI1 98 k rfl
  have y1_7_2 : ∀ k, w1.2.1 8 k = w.2.1 8 k := fun k => hI1 8 k rfl
  have y1_7_3 : ∀ k, w1.2.1 102 k = w.2.1 102 k := fun k => hI1 102 k rfl
  have y1_7_4 : w1.2.1 1 1 = w.2.1 1 1 := hI1 1 1 rfl
  refine XW.fam (S' := (2163, [(3, .int i), (2, .ref 94), (1, .ref 0), (0, .retAddr 0)], [], w1)) (M := mr_371) rfl (show mcode 371 2162 = some (2162, .pop, 1, 0, 0, 0, _) from rfl) (Or.inr (Or.inr (Or.inr (Or.inr (Or.inr (Or.inl ⟨_, rfl, rfl⟩)))))) ?_
  refine XW.fam (S' := (2164, [(3, .int i), (2, .ref 94), (1, .ref 0), (0, .retAddr 0)], [.ref 94], w1)) (M := mr_371) rfl (show mcode 371 2163 = some (2163, .aload_n 2, 1, 0, 0, 0, _) from rfl) (Or.inl ⟨.ref 94, rfl, rfl⟩) ?_
  refine lw_ld (pc := 2164) (n := 1) rfl rfl rfl rfl rfl (by decide) hi0 hi1 hL ?_
  refine lw_ld (pc := 2169) (n := 2) rfl rfl rfl rfl rfl (by decide) hi0 hi1 hL ?_
  refine XW.call (d' := 41) (mc' := 0) (ms' := 0) (av := [.ref 94, .int (xs (i + Int32.ofInt 1).toNatClampNeg), .int (xs (i + Int32.ofInt 2).toNatClampNeg)]) (rest := []) (M := mr_371) (Ma := mr_368) rfl (show mcode 371 2174 = some (2174, .invokevirtual 242, 3, 368, 0, 0, _) from rfl) rfl (by decide) (by decide) ⟨rfl, 94, _, rfl, (iv_cell hw1).2⟩ rfl rfl (show _ ≤ 8 by decide) (kk_428 [.ref 94, .int (xs (i + Int32.ofInt 1).toNatClampNeg), .int (xs (i + Int32.ofInt 2).toNatClampNeg)] w1 hw1 ⟨rfl, any32 _, any32 _, trivial⟩ (fun q hq => by cases hq) hf1) (by decide) (by omega) (by omega) (fun r2 w2 hQ2 => ?_)
  obtain ⟨hf2, hw2, hI2, ⟨x2, rfl, -, -⟩, -⟩ := hQ2
  have c2_0 : w2.2.1 1 1 = w1.2.1 1 1 := hI2 1 1 rfl
  have m2_0 : w2.2.1 94 2 = w1.2.1 94 2 := hI2 94 2 rfl
  have c2_1 : w2.2.1 1 0 = w1.2.1 1 0 := hI2 1 0 rfl
  have m2_1 : w2.2.1 94 1 = w1.2.1 94 1 := hI2 94 1 rfl
  have c2_2 : w2.2.1 41 0 = w1.2.1 41 0 := hI2 41 0 rfl
  have m2_2 : w2.2.1 94 34 = w1.2.1 94 34 := hI2 94 34 rfl
  have c2_3 : ∀ k, w2.2.1 42 k = w1.2.1 42 k := fun k => hI2 42 k rfl
  have m2_3 : ∀ k, w2.2.1 122 k = w1.2.1 122 k := fun k => hI2 122 k rfl
  have c2_4 : w2.2.1 47 3 = w1.2.1 47 3 := hI2 47 3 rfl
  have m2_4 : w2.2.1 94 35 = w1.2.1 94 35 := hI2 94 35 rfl
  have c2_5 : ∀ k, w2.2.1 48 k = w1.2.1 48 k := fun k => hI2 48 k rfl
  have m2_5 : ∀ k, w2.2.1 123 k = w1.2.1 123 k := fun k => hI2 123 k rfl
  have c2_6 : ∀ k, w2.2.1 49 k = w1.2.1 49 k := fun k => hI2 49 k rfl
  have m2_6 : ∀ k, w2.2.1 124 k = w1.2.1 124 k := fun k => hI2 124 k rfl
  have y2_7_0 : ∀ k, w2.2.1 5 k = w1.2.1 5 k := fun k => hI2 5 k rfl
  have y2_7_1 : ∀ k, w2.2.1 98 k = w1.2.1 98 k := fun k => hI2 98 k rfl
  have y2_7_2 : ∀ k, w2.2.1 8 k = w1.2.1 8 k := fun k => hI2 8 k rfl
  have y2_7_3 : ∀ k, w2.2.1 102 k = w1.2.1 102 k := fun k => hI2 102 k rfl
  have y2_7_4 : w2.2.1 1 1 = w1.2.1 1 1 := hI2 1 1 rfl
  refine XW.fam (S' := (2178, [(3, .int i), (2, .ref 94), (1, .ref 0), (0, .retAddr 0)], [], w2)) (M := mr_371) rfl (show mcode 371 2177 = some (2177, .pop, 1, 0, 0, 0, _) from rfl) (Or.inr (Or.inr (Or.inr (Or.inr (Or.inr (Or.inl ⟨_, rfl, rfl⟩)))))) ?_
  refine XW.fam (S' := (2217, [(3, .int i), (2, .ref 94), (1, .ref 0), (0, .retAddr 0)], [], w2)) (M := mr_371) rfl (show mcode 371 2178 = some (2178, .goto 39, 3, 2217, 0, 0, _) from rfl) (Or.inr (Or.inl ⟨2217, [], rfl, rfl⟩)) ?_
  exact XW.wid (mc := mc) (ms := ms) (by omega) (by omega) (K w2 ⟨hf2, ⟨_, _, hw2⟩, ⟨(c2_0.trans c1_0).trans (hv.1.trans (m1_0.symm.trans m2_0.symm)), (c2_1.trans c1_1).trans (hv.2.1.trans (m1_1.symm.trans m2_1.symm)), (c2_2.trans c1_2).trans (hv.2.2.1.trans (m1_2.symm.trans m2_2.symm)), fun k => ((c2_3 k).trans (c1_3 k)).trans ((hv.2.2.2.1 k).trans ((m1_3 k).symm.trans (m2_3 k).symm)), (c2_4.trans c1_4).trans (hv.2.2.2.2.1.trans (m1_4.symm.trans m2_4.symm)), fun k => ((c2_5 k).trans (c1_5 k)).trans ((hv.2.2.2.2.2.1 k).trans ((m1_5 k).symm.trans (m2_5 k).symm)), fun k => ((c2_6 k).trans (c1_6 k)).trans ((hv.2.2.2.2.2.2.1 k).trans ((m1_6 k).symm.trans (m2_6 k).symm)), RLf_keep (fun k => (y2_7_0 k).trans (y1_7_0 k)) (fun k => (y2_7_1 k).trans (y1_7_1 k)) (fun k => (y2_7_2 k).trans (y1_7_2 k)) (fun k => (y2_7_3 k).trans (y1_7_3 k)) (y2_7_4.trans y1_7_4) hv.2.2.2.2.2.2.2⟩⟩)
set_option maxRecDepth 100000 in
theorem case_55 {Ln : Nat} {xs : Nat → Int32} {mc ms : Nat} {w : mW} {i : Int32} (hi0 : 0 ≤ i.toInt) (hi1 : i.toInt + 6 ≤ Ln) (hL : Ln ≤ 3072) (hV : IV w) (K : ∀ w', IV w' → XW 371 mr_371 (some (Ln, xs)) 91 mc ms Qone (2217, [(3, .int i), (2, .ref 94), (1, .ref 0), (0, .retAddr 0)], [], w')) : XW 371 mr_371 (some (Ln, xs)) 91 (mc + 1) (ms + 240) Qone (2181, [(3, .int i), (2, .ref 94), (1, .ref 0), (0, .retAddr 0)], [], w) := by
  obtain ⟨hf, ⟨sh, R, hw⟩, hv⟩ := hV
  refine XW.fam (S' := (2182, [(3, .int i), (2, .ref 94), (1, .ref 0), (0, .retAddr 0)], [.ref 0], w)) (M := mr_371) rfl (show mcode 371 2181 = some (2181, .aload_n 1, 1, 0, 0, 0, _) from rfl) (Or.inl ⟨.ref 0, rfl, rfl⟩) ?_
  refine XW.call (d' := 44) (mc' := 0) (ms' := 0) (av := [.ref 0]) (rest := []) (M := mr_371) (Ma := mr_228) rfl (show mcode 371 2182 = some (2182, .invokevirtual 243, 3, 228, 0, 0, _) from rfl) rfl (by decide) (by decide) ⟨rfl, 0, _, rfl, (iv_cell hw).1⟩ rfl rfl (show _ ≤ 8 by decide) (kk_225 [.ref 0] w hw ⟨rfl, trivial⟩ (fun q hq => by cases hq) hf) (by decide) (by omega) (by omega) (fun r1 w1 hQ1 => ?_)
  obtain ⟨hf1, hw1, hI1, ⟨x1, rfl, -, -⟩, -⟩ := hQ1
  have c1_0 : w1.2.1 1 1 = w.2.1 1 1 := hI1 1 1 rfl
  have m1_0 : w1.2.1 94 2 = w.2.1 94 2 := hI1 94 2 rfl
  have c1_1 : w1.2.1 1 0 = w.2.1 1 0 := hI1 1 0 rfl
  have m1_1 : w1.2.1 94 1 = w.2.1 94 1 := hI1 94 1 rfl
  have c1_2 : w1.2.1 41 0 = w.2.1 41 0 := hI1 41 0 rfl
  have m1_2 : w1.2.1 94 34 = w.2.1 94 34 := hI1 94 34 rfl
  have c1_3 : ∀ k, w1.2.1 42 k = w.2.1 42 k := fun k => hI1 42 k rfl
  have m1_3 : ∀ k, w1.2.1 122 k = w.2.1 122 k := fun k => hI1 122 k rfl
  have c1_4 : w1.2.1 47 3 = w.2.1 47 3 := hI1 47 3 rfl
  have m1_4 : w1.2.1 94 35 = w.2.1 94 35 := hI1 94 35 rfl
  have c1_5 : ∀ k, w1.2.1 48 k = w.2.1 48 k := fun k => hI1 48 k rfl
  have m1_5 : ∀ k, w1.2.1 123 k = w.2.1 123 k := fun k => hI1 123 k rfl
  have c1_6 : ∀ k, w1.2.1 49 k = w.2.1 49 k := fun k => hI1 49 k rfl
  have m1_6 : ∀ k, w1.2.1 124 k = w.2.1 124 k := fun k => hI1 124 k rfl
  have y1_7_0 : ∀ k, w1.2.1 5 k = w.2.1 5 k := fun k => hI1 5 k rfl
  have y1_7_1 : ∀ k, w1.2.1 98 k = w.2.1 98 k := fun k => hI1 98 k rfl
  have y1_7_2 : ∀ k, w1.2.1 8 k = w.2.1 8 k := fun k => hI1 8 k rfl
  have y1_7_3 : ∀ k, w1.2.1 102 k = w.2.1 102 k := fun k => hI1 102 k rfl
  have y1_7_4 : w1.2.1 1 1 = w.2.1 1 1 := hI1 1 1 rfl
  refine XW.fam (S' := (2186, [(3, .int i), (2, .ref 94), (1, .ref 0), (0, .retAddr 0)], [], w1)) (M := mr_371) rfl (show mcode 371 2185 = some (2185, .pop, 1, 0, 0, 0, _) from rfl) (Or.inr (Or.inr (Or.inr (Or.inr (Or.inr (Or.inl ⟨_, rfl, rfl⟩)))))) ?_
  refine XW.fam (S' := (2187, [(3, .int i), (2, .ref 94), (1, .ref 0), (0, .retAddr 0)], [.ref 94], w1)) (M := mr_371) rfl (show mcode 371 2186 = some (2186, .aload_n 2, 1, 0, 0, 0, _) from rfl) (Or.inl ⟨.ref 94, rfl, rfl⟩) ?_
  refine XW.call (d' := 42) (mc' := 0) (ms' := 0) (av := [.ref 94]) (rest := []) (M := mr_371) (Ma := mr_369) rfl (show mcode 371 2187 = some (2187, .invokevirtual 246, 3, 369, 0, 0, _) from rfl) rfl (by decide) (by decide) ⟨rfl, 94, _, rfl, (iv_cell hw1).2⟩ rfl rfl (show _ ≤ 8 by decide) (kk_429 [.ref 94] w1 hw1 ⟨rfl, trivial⟩ (fun q hq => by cases hq) hf1) (by decide) (by omega) (by omega) (fun r2 w2 hQ2 => ?_)
  obtain ⟨hf2, hw2, hI2, ⟨x2, rfl, -, -⟩, -⟩ := hQ2
  have c2_0 : w2.2.1 1 1 = w1.2.1 1 1 := hI2 1 1 rfl
  have m2_0 : w2.2.1 94 2 = w1.2.1 94 2 := hI2 94 2 rfl
  have c2_1 : w2.2.1 1 0 = w1.2.1 1 0 := hI2 1 0 rfl
  have m2_1 : w2.2.1 94 1 = w1.2.1 94 1 := hI2 94 1 rfl
  have c2_2 : w2.2.1 41 0 = w1.2.1 41 0 := hI2 41 0 rfl
  have m2_2 : w2.2.1 94 34 = w1.2.1 94 34 := hI2 94 34 rfl
  have c2_3 : ∀ k, w2.2.1 42 k = w1.2.1 42 k := fun k => hI2 42 k rfl
  have m2_3 : ∀ k, w2.2.1 122 k = w1.2.1 122 k := fun k => hI2 122 k rfl
  have c2_4 : w2.2.1 47 3 = w1.2.1 47 3 := hI2 47 3 rfl
  have m2_4 : w2.2.1 94 35 = w1.2.1 94 35 := hI2 94 35 rfl
  have c2_5 : ∀ k, w2.2.1 48 k = w1.2.1 48 k := fun k => hI2 48 k rfl
  have m2_5 : ∀ k, w2.2.1 123 k = w1.2.1 123 k := fun k => hI2 123 k rfl
  have c2_6 : ∀ k, w2.2.1 49 k = w1.2.1 49 k := fun k => hI2 49 k rfl
  have m2_6 : ∀ k, w2.2.1 124 k = w1.2.1 124 k := fun k => hI2 124 k rfl
  have y2_7_0 : ∀ k, w2.2.1 5 k = w1.2.1 5 k := fun k => hI2 5 k rfl
  have y2_7_1 : ∀ k, w2.2.1 98 k = w1.2.1 98 k := fun k => hI2 98 k rfl
  have y2_7_2 : ∀ k, w2.2.1 8 k = w1.2.1 8 k := fun k => hI2 8 k rfl
  have y2_7_3 : ∀ k, w2.2.1 102 k = w1.2.1 102 k := fun k => hI2 102 k rfl
  have y2_7_4 : w2.2.1 1 1 = w1.2.1 1 1 := hI2 1 1 rfl
  refine XW.fam (S' := (2191, [(3, .int i), (2, .ref 94), (1, .ref 0), (0, .retAddr 0)], [], w2)) (M := mr_371) rfl (show mcode 371 2190 = some (2190, .pop, 1, 0, 0, 0, _) from rfl) (Or.inr (Or.inr (Or.inr (Or.inr (Or.inr (Or.inl ⟨_, rfl, rfl⟩)))))) ?_
  refine XW.fam (S' := (2217, [(3, .int i), (2, .ref 94), (1, .ref 0), (0, .retAddr 0)], [], w2)) (M := mr_371) rfl (show mcode 371 2191 = some (2191, .goto 26, 3, 2217, 0, 0, _) from rfl) (Or.inr (Or.inl ⟨2217, [], rfl, rfl⟩)) ?_
  exact XW.wid (mc := mc) (ms := ms) (by omega) (by omega) (K w2 ⟨hf2, ⟨_, _, hw2⟩, ⟨(c2_0.trans c1_0).trans (hv.1.trans (m1_0.symm.trans m2_0.symm)), (c2_1.trans c1_1).trans (hv.2.1.trans (m1_1.symm.trans m2_1.symm)), (c2_2.trans c1_2).trans (hv.2.2.1.trans (m1_2.symm.trans m2_2.symm)), fun k => ((c2_3 k).trans (c1_3 k)).trans ((hv.2.2.2.1 k).trans ((m1_3 k).symm.trans (m2_3 k).symm)), (c2_4.trans c1_4).trans (hv.2.2.2.2.1.trans (m1_4.symm.trans m2_4.symm)), fun k => ((c2_5 k).trans (c1_5 k)).trans ((hv.2.2.2.2.2.1 k).trans ((m1_5 k).symm.trans (m2_5 k).symm)), fun k => ((c2_6 k).trans (c1_6 k)).trans ((hv.2.2.2.2.2.2.1 k).trans ((m1_6 k).symm.trans (m2_6 k).symm)), RLf_keep (fun k => (y2_7_0 k).trans (y1_7_0 k)) (fun k => (y2_7_1 k).trans (y1_7_1 k)) (fun k => (y2_7_2 k).trans (y1_7_2 k)) (fun k => (y2_7_3 k).trans (y1_7_3 k)) (y2_7_4.trans y1_7_4) hv.2.2.2.2.2.2.2⟩⟩)
set_option maxRecDepth 100000 in
theorem case_56 {Ln : Nat} {xs : Nat → Int32} {mc ms : Nat} {w : mW} {i : Int32} (hi0 : 0 ≤ i.toInt) (hi1 : i.toInt + 6 ≤ Ln) (hL : Ln ≤ 3072) (hV : IV w) (K : ∀ w', IV w' → XW 371 mr_371 (some (Ln, xs)) 91 mc ms Qone (2217, [(3, .int i), (2, .ref 94), (1, .ref 0), (0, .retAddr 0)], [], w')) : XW 371 mr_371 (some (Ln, xs)) 91 (mc + 1) (ms + 240) Qone (2194, [(3, .int i), (2, .ref 94), (1, .ref 0), (0, .retAddr 0)], [], w) := by
  obtain ⟨hf, ⟨sh, R, hw⟩, hv⟩ := hV
  refine XW.fam (S' := (2195, [(3, .int i), (2, .ref 94), (1, .ref 0), (0, .retAddr 0)], [.ref 0], w)) (M := mr_371) rfl (show mcode 371 2194 = some (2194, .aload_n 1, 1, 0, 0, 0, _) from rfl) (Or.inl ⟨.ref 0, rfl, rfl⟩) ?_
  refine lw_ld (pc := 2195) (n := 1) rfl rfl rfl rfl rfl (by decide) hi0 hi1 hL ?_
  refine XW.call (d' := 42) (mc' := 0) (ms' := 0) (av := [.ref 0, .int (xs (i + Int32.ofInt 1).toNatClampNeg)]) (rest := []) (M := mr_371) (Ma := mr_232) rfl (show mcode 371 2200 = some (2200, .invokevirtual 247, 3, 232, 0, 0, _) from rfl) rfl (by decide) (by decide) ⟨rfl, 0, _, rfl, (iv_cell hw).1⟩ rfl rfl (show _ ≤ 8 by decide) (kk_227 [.ref 0, .int (xs (i + Int32.ofInt 1).toNatClampNeg)] w hw ⟨rfl, any32 _, trivial⟩ (fun q hq => by cases hq) hf) (by decide) (by omega) (by omega) (fun r1 w1 hQ1 => ?_)
  obtain ⟨hf1, hw1, hI1, ⟨x1, rfl, -, -⟩, -⟩ := hQ1
  have c1_0 : w1.2.1 1 1 = w.2.1 1 1 := hI1 1 1 rfl
  have m1_0 : w1.2.1 94 2 = w.2.1 94 2 := hI1 94 2 rfl
  have c1_1 : w1.2.1 1 0 = w.2.1 1 0 := hI1 1 0 rfl
  have m1_1 : w1.2.1 94 1 = w.2.1 94 1 := hI1 94 1 rfl
  have c1_2 : w1.2.1 41 0 = w.2.1 41 0 := hI1 41 0 rfl
  have m1_2 : w1.2.1 94 34 = w.2.1 94 34 := hI1 94 34 rfl
  have c1_3 : ∀ k, w1.2.1 42 k = w.2.1 42 k := fun k => hI1 42 k rfl
  have m1_3 : ∀ k, w1.2.1 122 k = w.2.1 122 k := fun k => hI1 122 k rfl
  have c1_4 : w1.2.1 47 3 = w.2.1 47 3 := hI1 47 3 rfl
  have m1_4 : w1.2.1 94 35 = w.2.1 94 35 := hI1 94 35 rfl
  have c1_5 : ∀ k, w1.2.1 48 k = w.2.1 48 k := fun k => hI1 48 k rfl
  have m1_5 : ∀ k, w1.2.1 123 k = w.2.1 123 k := fun k => hI1 123 k rfl
  have c1_6 : ∀ k, w1.2.1 49 k = w.2.1 49 k := fun k => hI1 49 k rfl
  have m1_6 : ∀ k, w1.2.1 124 k = w.2.1 124 k := fun k => hI1 124 k rfl
  have y1_7_0 : ∀ k, w1.2.1 5 k = w.2.1 5 k := fun k => hI1 5 k rfl
  have y1_7_1 : ∀ k, w1.2.1 98 k = w.2.1 98 k := fun k => hI1 98 k rfl
  have y1_7_2 : ∀ k, w1.2.1 8 k = w.2.1 8 k := fun k => hI1 8 k rfl
  have y1_7_3 : ∀ k, w1.2.1 102 k = w.2.1 102 k := fun k => hI1 102 k rfl
  have y1_7_4 : w1.2.1 1 1 = w.2.1 1 1 := hI1 1 1 rfl
  refine XW.fam (S' := (2204, [(3, .int i), (2, .ref 94), (1, .ref 0), (0, .retAddr 0)], [], w1)) (M := mr_371) rfl (show mcode 371 2203 = some (2203, .pop, 1, 0, 0, 0, _) from rfl) (Or.inr (Or.inr (Or.inr (Or.inr (Or.inr (Or.inl ⟨_, rfl, rfl⟩)))))) ?_
  refine XW.fam (S' := (2205, [(3, .int i), (2, .ref 94), (1, .ref 0), (0, .retAddr 0)], [.ref 94], w1)) (M := mr_371) rfl (show mcode 371 2204 = some (2204, .aload_n 2, 1, 0, 0, 0, _) from rfl) (Or.inl ⟨.ref 94, rfl, rfl⟩) ?_
  refine lw_ld (pc := 2205) (n := 1) rfl rfl rfl rfl rfl (by decide) hi0 hi1 hL ?_
  refine XW.call (d' := 41) (mc' := 0) (ms' := 0) (av := [.ref 94, .int (xs (i + Int32.ofInt 1).toNatClampNeg)]) (rest := []) (M := mr_371) (Ma := mr_370) rfl (show mcode 371 2210 = some (2210, .invokevirtual 250, 3, 370, 0, 0, _) from rfl) rfl (by decide) (by decide) ⟨rfl, 94, _, rfl, (iv_cell hw1).2⟩ rfl rfl (show _ ≤ 8 by decide) (kk_430 [.ref 94, .int (xs (i + Int32.ofInt 1).toNatClampNeg)] w1 hw1 ⟨rfl, any32 _, trivial⟩ (fun q hq => by cases hq) hf1) (by decide) (by omega) (by omega) (fun r2 w2 hQ2 => ?_)
  obtain ⟨hf2, hw2, hI2, ⟨x2, rfl, -, -⟩, -⟩ := hQ2
  have c2_0 : w2.2.1 1 1 = w1.2.1 1 1 := hI2 1 1 rfl
  have m2_0 : w2.2.1 94 2 = w1.2.1 94 2 := hI2 94 2 rfl
  have c2_1 : w2.2.1 1 0 = w1.2.1 1 0 := hI2 1 0 rfl
  have m2_1 : w2.2.1 94 1 = w1.2.1 94 1 := hI2 94 1 rfl
  have c2_2 : w2.2.1 41 0 = w1.2.1 41 0 := hI2 41 0 rfl
  have m2_2 : w2.2.1 94 34 = w1.2.1 94 34 := hI2 94 34 rfl
  have c2_3 : ∀ k, w2.2.1 42 k = w1.2.1 42 k := fun k => hI2 42 k rfl
  have m2_3 : ∀ k, w2.2.1 122 k = w1.2.1 122 k := fun k => hI2 122 k rfl
  have c2_4 : w2.2.1 47 3 = w1.2.1 47 3 := hI2 47 3 rfl
  have m2_4 : w2.2.1 94 35 = w1.2.1 94 35 := hI2 94 35 rfl
  have c2_5 : ∀ k, w2.2.1 48 k = w1.2.1 48 k := fun k => hI2 48 k rfl
  have m2_5 : ∀ k, w2.2.1 123 k = w1.2.1 123 k := fun k => hI2 123 k rfl
  have c2_6 : ∀ k, w2.2.1 49 k = w1.2.1 49 k := fun k => hI2 49 k rfl
  have m2_6 : ∀ k, w2.2.1 124 k = w1.2.1 124 k := fun k => hI2 124 k rfl
  have y2_7_0 : ∀ k, w2.2.1 5 k = w1.2.1 5 k := fun k => hI2 5 k rfl
  have y2_7_1 : ∀ k, w2.2.1 98 k = w1.2.1 98 k := fun k => hI2 98 k rfl
  have y2_7_2 : ∀ k, w2.2.1 8 k = w1.2.1 8 k := fun k => hI2 8 k rfl
  have y2_7_3 : ∀ k, w2.2.1 102 k = w1.2.1 102 k := fun k => hI2 102 k rfl
  have y2_7_4 : w2.2.1 1 1 = w1.2.1 1 1 := hI2 1 1 rfl
  refine XW.fam (S' := (2214, [(3, .int i), (2, .ref 94), (1, .ref 0), (0, .retAddr 0)], [], w2)) (M := mr_371) rfl (show mcode 371 2213 = some (2213, .pop, 1, 0, 0, 0, _) from rfl) (Or.inr (Or.inr (Or.inr (Or.inr (Or.inr (Or.inl ⟨_, rfl, rfl⟩)))))) ?_
  refine XW.fam (S' := (2217, [(3, .int i), (2, .ref 94), (1, .ref 0), (0, .retAddr 0)], [], w2)) (M := mr_371) rfl (show mcode 371 2214 = some (2214, .goto 3, 3, 2217, 0, 0, _) from rfl) (Or.inr (Or.inl ⟨2217, [], rfl, rfl⟩)) ?_
  exact XW.wid (mc := mc) (ms := ms) (by omega) (by omega) (K w2 ⟨hf2, ⟨_, _, hw2⟩, ⟨(c2_0.trans c1_0).trans (hv.1.trans (m1_0.symm.trans m2_0.symm)), (c2_1.trans c1_1).trans (hv.2.1.trans (m1_1.symm.trans m2_1.symm)), (c2_2.trans c1_2).trans (hv.2.2.1.trans (m1_2.symm.trans m2_2.symm)), fun k => ((c2_3 k).trans (c1_3 k)).trans ((hv.2.2.2.1 k).trans ((m1_3 k).symm.trans (m2_3 k).symm)), (c2_4.trans c1_4).trans (hv.2.2.2.2.1.trans (m1_4.symm.trans m2_4.symm)), fun k => ((c2_5 k).trans (c1_5 k)).trans ((hv.2.2.2.2.2.1 k).trans ((m1_5 k).symm.trans (m2_5 k).symm)), fun k => ((c2_6 k).trans (c1_6 k)).trans ((hv.2.2.2.2.2.2.1 k).trans ((m1_6 k).symm.trans (m2_6 k).symm)), RLf_keep (fun k => (y2_7_0 k).trans (y1_7_0 k)) (fun k => (y2_7_1 k).trans (y1_7_1 k)) (fun k => (y2_7_2 k).trans (y1_7_2 k)) (fun k => (y2_7_3 k).trans (y1_7_3 k)) (y2_7_4.trans y1_7_4) hv.2.2.2.2.2.2.2⟩⟩)
set_option maxRecDepth 100000 in
theorem sw_0 {Ln : Nat} {xs : Nat → Int32} {mc ms : Nat} {w : mW} {i : Int32} (hi0 : 0 ≤ i.toInt) (hi1 : i.toInt + 6 ≤ Ln) (hL : Ln ≤ 3072) (hV : IV w) (K : ∀ w', IV w' → XW 371 mr_371 (some (Ln, xs)) 91 mc ms Qone (2217, [(3, .int i), (2, .ref 94), (1, .ref 0), (0, .retAddr 0)], [], w')) : XW 371 mr_371 (some (Ln, xs)) 91 (mc + 1) (ms + 240) Qone (33, [(3, .int i), (2, .ref 94), (1, .ref 0), (0, .retAddr 0)], [.int (nI 0)], w) := by
  refine XW.fam (S' := (276, [(3, .int i), (2, .ref 94), (1, .ref 0), (0, .retAddr 0)], [], w)) (M := mr_371) rfl (show mcode 371 33 = some (33, _, _, _, _, _, _) from rfl) (Or.inr (Or.inl ⟨276, [], rfl, rfl⟩)) ?_
  exact case_0 hi0 hi1 hL hV K
set_option maxRecDepth 100000 in
theorem sw_1 {Ln : Nat} {xs : Nat → Int32} {mc ms : Nat} {w : mW} {i : Int32} (hi0 : 0 ≤ i.toInt) (hi1 : i.toInt + 6 ≤ Ln) (hL : Ln ≤ 3072) (hV : IV w) (K : ∀ w', IV w' → XW 371 mr_371 (some (Ln, xs)) 91 mc ms Qone (2217, [(3, .int i), (2, .ref 94), (1, .ref 0), (0, .retAddr 0)], [], w')) : XW 371 mr_371 (some (Ln, xs)) 91 (mc + 1) (ms + 240) Qone (33, [(3, .int i), (2, .ref 94), (1, .ref 0), (0, .retAddr 0)], [.int (nI 1)], w) := by
  refine XW.fam (S' := (309, [(3, .int i), (2, .ref 94), (1, .ref 0), (0, .retAddr 0)], [], w)) (M := mr_371) rfl (show mcode 371 33 = some (33, _, _, _, _, _, _) from rfl) (Or.inr (Or.inl ⟨309, [], rfl, rfl⟩)) ?_
  exact case_1 hi0 hi1 hL hV K
set_option maxRecDepth 100000 in
theorem sw_2 {Ln : Nat} {xs : Nat → Int32} {mc ms : Nat} {w : mW} {i : Int32} (hi0 : 0 ≤ i.toInt) (hi1 : i.toInt + 6 ≤ Ln) (hL : Ln ≤ 3072) (hV : IV w) (K : ∀ w', IV w' → XW 371 mr_371 (some (Ln, xs)) 91 mc ms Qone (2217, [(3, .int i), (2, .ref 94), (1, .ref 0), (0, .retAddr 0)], [], w')) : XW 371 mr_371 (some (Ln, xs)) 91 (mc + 1) (ms + 240) Qone (33, [(3, .int i), (2, .ref 94), (1, .ref 0), (0, .retAddr 0)], [.int (nI 2)], w) := by
  refine XW.fam (S' := (362, [(3, .int i), (2, .ref 94), (1, .ref 0), (0, .retAddr 0)], [], w)) (M := mr_371) rfl (show mcode 371 33 = some (33, _, _, _, _, _, _) from rfl) (Or.inr (Or.inl ⟨362, [], rfl, rfl⟩)) ?_
  exact case_2 hi0 hi1 hL hV K
set_option maxRecDepth 100000 in
theorem sw_3 {Ln : Nat} {xs : Nat → Int32} {mc ms : Nat} {w : mW} {i : Int32} (hi0 : 0 ≤ i.toInt) (hi1 : i.toInt + 6 ≤ Ln) (hL : Ln ≤ 3072) (hV : IV w) (K : ∀ w', IV w' → XW 371 mr_371 (some (Ln, xs)) 91 mc ms Qone (2217, [(3, .int i), (2, .ref 94), (1, .ref 0), (0, .retAddr 0)], [], w')) : XW 371 mr_371 (some (Ln, xs)) 91 (mc + 1) (ms + 240) Qone (33, [(3, .int i), (2, .ref 94), (1, .ref 0), (0, .retAddr 0)], [.int (nI 3)], w) := by
  refine XW.fam (S' := (395, [(3, .int i), (2, .ref 94), (1, .ref 0), (0, .retAddr 0)], [], w)) (M := mr_371) rfl (show mcode 371 33 = some (33, _, _, _, _, _, _) from rfl) (Or.inr (Or.inl ⟨395, [], rfl, rfl⟩)) ?_
  exact case_3 hi0 hi1 hL hV K
set_option maxRecDepth 100000 in
theorem sw_4 {Ln : Nat} {xs : Nat → Int32} {mc ms : Nat} {w : mW} {i : Int32} (hi0 : 0 ≤ i.toInt) (hi1 : i.toInt + 6 ≤ Ln) (hL : Ln ≤ 3072) (hV : IV w) (K : ∀ w', IV w' → XW 371 mr_371 (some (Ln, xs)) 91 mc ms Qone (2217, [(3, .int i), (2, .ref 94), (1, .ref 0), (0, .retAddr 0)], [], w')) : XW 371 mr_371 (some (Ln, xs)) 91 (mc + 1) (ms + 240) Qone (33, [(3, .int i), (2, .ref 94), (1, .ref 0), (0, .retAddr 0)], [.int (nI 4)], w) := by
  refine XW.fam (S' := (418, [(3, .int i), (2, .ref 94), (1, .ref 0), (0, .retAddr 0)], [], w)) (M := mr_371) rfl (show mcode 371 33 = some (33, _, _, _, _, _, _) from rfl) (Or.inr (Or.inl ⟨418, [], rfl, rfl⟩)) ?_
  exact case_4 hi0 hi1 hL hV K
set_option maxRecDepth 100000 in
theorem sw_5 {Ln : Nat} {xs : Nat → Int32} {mc ms : Nat} {w : mW} {i : Int32} (hi0 : 0 ≤ i.toInt) (hi1 : i.toInt + 6 ≤ Ln) (hL : Ln ≤ 3072) (hV : IV w) (K : ∀ w', IV w' → XW 371 mr_371 (some (Ln, xs)) 91 mc ms Qone (2217, [(3, .int i), (2, .ref 94), (1, .ref 0), (0, .retAddr 0)], [], w')) : XW 371 mr_371 (some (Ln, xs)) 91 (mc + 1) (ms + 240) Qone (33, [(3, .int i), (2, .ref 94), (1, .ref 0), (0, .retAddr 0)], [.int (nI 5)], w) := by
  refine XW.fam (S' := (441, [(3, .int i), (2, .ref 94), (1, .ref 0), (0, .retAddr 0)], [], w)) (M := mr_371) rfl (show mcode 371 33 = some (33, _, _, _, _, _, _) from rfl) (Or.inr (Or.inl ⟨441, [], rfl, rfl⟩)) ?_
  exact case_5 hi0 hi1 hL hV K
set_option maxRecDepth 100000 in
theorem sw_6 {Ln : Nat} {xs : Nat → Int32} {mc ms : Nat} {w : mW} {i : Int32} (hi0 : 0 ≤ i.toInt) (hi1 : i.toInt + 6 ≤ Ln) (hL : Ln ≤ 3072) (hV : IV w) (K : ∀ w', IV w' → XW 371 mr_371 (some (Ln, xs)) 91 mc ms Qone (2217, [(3, .int i), (2, .ref 94), (1, .ref 0), (0, .retAddr 0)], [], w')) : XW 371 mr_371 (some (Ln, xs)) 91 (mc + 1) (ms + 240) Qone (33, [(3, .int i), (2, .ref 94), (1, .ref 0), (0, .retAddr 0)], [.int (nI 6)], w) := by
  refine XW.fam (S' := (494, [(3, .int i), (2, .ref 94), (1, .ref 0), (0, .retAddr 0)], [], w)) (M := mr_371) rfl (show mcode 371 33 = some (33, _, _, _, _, _, _) from rfl) (Or.inr (Or.inl ⟨494, [], rfl, rfl⟩)) ?_
  exact case_6 hi0 hi1 hL hV K
set_option maxRecDepth 100000 in
theorem sw_7 {Ln : Nat} {xs : Nat → Int32} {mc ms : Nat} {w : mW} {i : Int32} (hi0 : 0 ≤ i.toInt) (hi1 : i.toInt + 6 ≤ Ln) (hL : Ln ≤ 3072) (hV : IV w) (K : ∀ w', IV w' → XW 371 mr_371 (some (Ln, xs)) 91 mc ms Qone (2217, [(3, .int i), (2, .ref 94), (1, .ref 0), (0, .retAddr 0)], [], w')) : XW 371 mr_371 (some (Ln, xs)) 91 (mc + 1) (ms + 240) Qone (33, [(3, .int i), (2, .ref 94), (1, .ref 0), (0, .retAddr 0)], [.int (nI 7)], w) := by
  refine XW.fam (S' := (517, [(3, .int i), (2, .ref 94), (1, .ref 0), (0, .retAddr 0)], [], w)) (M := mr_371) rfl (show mcode 371 33 = some (33, _, _, _, _, _, _) from rfl) (Or.inr (Or.inl ⟨517, [], rfl, rfl⟩)) ?_
  exact case_7 hi0 hi1 hL hV K
set_option maxRecDepth 100000 in
theorem sw_8 {Ln : Nat} {xs : Nat → Int32} {mc ms : Nat} {w : mW} {i : Int32} (hi0 : 0 ≤ i.toInt) (hi1 : i.toInt + 6 ≤ Ln) (hL : Ln ≤ 3072) (hV : IV w) (K : ∀ w', IV w' → XW 371 mr_371 (some (Ln, xs)) 91 mc ms Qone (2217, [(3, .int i), (2, .ref 94), (1, .ref 0), (0, .retAddr 0)], [], w')) : XW 371 mr_371 (some (Ln, xs)) 91 (mc + 1) (ms + 240) Qone (33, [(3, .int i), (2, .ref 94), (1, .ref 0), (0, .retAddr 0)], [.int (nI 8)], w) := by
  refine XW.fam (S' := (550, [(3, .int i), (2, .ref 94), (1, .ref 0), (0, .retAddr 0)], [], w)) (M := mr_371) rfl (show mcode 371 33 = some (33, _, _, _, _, _, _) from rfl) (Or.inr (Or.inl ⟨550, [], rfl, rfl⟩)) ?_
  exact case_8 hi0 hi1 hL hV K
set_option maxRecDepth 100000 in
theorem sw_9 {Ln : Nat} {xs : Nat → Int32} {mc ms : Nat} {w : mW} {i : Int32} (hi0 : 0 ≤ i.toInt) (hi1 : i.toInt + 6 ≤ Ln) (hL : Ln ≤ 3072) (hV : IV w) (K : ∀ w', IV w' → XW 371 mr_371 (some (Ln, xs)) 91 mc ms Qone (2217, [(3, .int i), (2, .ref 94), (1, .ref 0), (0, .retAddr 0)], [], w')) : XW 371 mr_371 (some (Ln, xs)) 91 (mc + 1) (ms + 240) Qone (33, [(3, .int i), (2, .ref 94), (1, .ref 0), (0, .retAddr 0)], [.int (nI 9)], w) := by
  refine XW.fam (S' := (593, [(3, .int i), (2, .ref 94), (1, .ref 0), (0, .retAddr 0)], [], w)) (M := mr_371) rfl (show mcode 371 33 = some (33, _, _, _, _, _, _) from rfl) (Or.inr (Or.inl ⟨593, [], rfl, rfl⟩)) ?_
  exact case_9 hi0 hi1 hL hV K
set_option maxRecDepth 100000 in
theorem sw_10 {Ln : Nat} {xs : Nat → Int32} {mc ms : Nat} {w : mW} {i : Int32} (hi0 : 0 ≤ i.toInt) (hi1 : i.toInt + 6 ≤ Ln) (hL : Ln ≤ 3072) (hV : IV w) (K : ∀ w', IV w' → XW 371 mr_371 (some (Ln, xs)) 91 mc ms Qone (2217, [(3, .int i), (2, .ref 94), (1, .ref 0), (0, .retAddr 0)], [], w')) : XW 371 mr_371 (some (Ln, xs)) 91 (mc + 1) (ms + 240) Qone (33, [(3, .int i), (2, .ref 94), (1, .ref 0), (0, .retAddr 0)], [.int (nI 10)], w) := by
  refine XW.fam (S' := (626, [(3, .int i), (2, .ref 94), (1, .ref 0), (0, .retAddr 0)], [], w)) (M := mr_371) rfl (show mcode 371 33 = some (33, _, _, _, _, _, _) from rfl) (Or.inr (Or.inl ⟨626, [], rfl, rfl⟩)) ?_
  exact case_10 hi0 hi1 hL hV K
set_option maxRecDepth 100000 in
theorem sw_11 {Ln : Nat} {xs : Nat → Int32} {mc ms : Nat} {w : mW} {i : Int32} (hi0 : 0 ≤ i.toInt) (hi1 : i.toInt + 6 ≤ Ln) (hL : Ln ≤ 3072) (hV : IV w) (K : ∀ w', IV w' → XW 371 mr_371 (some (Ln, xs)) 91 mc ms Qone (2217, [(3, .int i), (2, .ref 94), (1, .ref 0), (0, .retAddr 0)], [], w')) : XW 371 mr_371 (some (Ln, xs)) 91 (mc + 1) (ms + 240) Qone (33, [(3, .int i), (2, .ref 94), (1, .ref 0), (0, .retAddr 0)], [.int (nI 11)], w) := by
  refine XW.fam (S' := (659, [(3, .int i), (2, .ref 94), (1, .ref 0), (0, .retAddr 0)], [], w)) (M := mr_371) rfl (show mcode 371 33 = some (33, _, _, _, _, _, _) from rfl) (Or.inr (Or.inl ⟨659, [], rfl, rfl⟩)) ?_
  exact case_11 hi0 hi1 hL hV K
set_option maxRecDepth 100000 in
theorem sw_12 {Ln : Nat} {xs : Nat → Int32} {mc ms : Nat} {w : mW} {i : Int32} (hi0 : 0 ≤ i.toInt) (hi1 : i.toInt + 6 ≤ Ln) (hL : Ln ≤ 3072) (hV : IV w) (K : ∀ w', IV w' → XW 371 mr_371 (some (Ln, xs)) 91 mc ms Qone (2217, [(3, .int i), (2, .ref 94), (1, .ref 0), (0, .retAddr 0)], [], w')) : XW 371 mr_371 (some (Ln, xs)) 91 (mc + 1) (ms + 240) Qone (33, [(3, .int i), (2, .ref 94), (1, .ref 0), (0, .retAddr 0)], [.int (nI 12)], w) := by
  refine XW.fam (S' := (692, [(3, .int i), (2, .ref 94), (1, .ref 0), (0, .retAddr 0)], [], w)) (M := mr_371) rfl (show mcode 371 33 = some (33, _, _, _, _, _, _) from rfl) (Or.inr (Or.inl ⟨692, [], rfl, rfl⟩)) ?_
  exact case_12 hi0 hi1 hL hV K
set_option maxRecDepth 100000 in
theorem sw_13 {Ln : Nat} {xs : Nat → Int32} {mc ms : Nat} {w : mW} {i : Int32} (hi0 : 0 ≤ i.toInt) (hi1 : i.toInt + 6 ≤ Ln) (hL : Ln ≤ 3072) (hV : IV w) (K : ∀ w', IV w' → XW 371 mr_371 (some (Ln, xs)) 91 mc ms Qone (2217, [(3, .int i), (2, .ref 94), (1, .ref 0), (0, .retAddr 0)], [], w')) : XW 371 mr_371 (some (Ln, xs)) 91 (mc + 1) (ms + 240) Qone (33, [(3, .int i), (2, .ref 94), (1, .ref 0), (0, .retAddr 0)], [.int (nI 13)], w) := by
  refine XW.fam (S' := (725, [(3, .int i), (2, .ref 94), (1, .ref 0), (0, .retAddr 0)], [], w)) (M := mr_371) rfl (show mcode 371 33 = some (33, _, _, _, _, _, _) from rfl) (Or.inr (Or.inl ⟨725, [], rfl, rfl⟩)) ?_
  exact case_13 hi0 hi1 hL hV K
set_option maxRecDepth 100000 in
theorem sw_14 {Ln : Nat} {xs : Nat → Int32} {mc ms : Nat} {w : mW} {i : Int32} (hi0 : 0 ≤ i.toInt) (hi1 : i.toInt + 6 ≤ Ln) (hL : Ln ≤ 3072) (hV : IV w) (K : ∀ w', IV w' → XW 371 mr_371 (some (Ln, xs)) 91 mc ms Qone (2217, [(3, .int i), (2, .ref 94), (1, .ref 0), (0, .retAddr 0)], [], w')) : XW 371 mr_371 (some (Ln, xs)) 91 (mc + 1) (ms + 240) Qone (33, [(3, .int i), (2, .ref 94), (1, .ref 0), (0, .retAddr 0)], [.int (nI 14)], w) := by
  refine XW.fam (S' := (778, [(3, .int i), (2, .ref 94), (1, .ref 0), (0, .retAddr 0)], [], w)) (M := mr_371) rfl (show mcode 371 33 = some (33, _, _, _, _, _, _) from rfl) (Or.inr (Or.inl ⟨778, [], rfl, rfl⟩)) ?_
  exact case_14 hi0 hi1 hL hV K
set_option maxRecDepth 100000 in
theorem sw_15 {Ln : Nat} {xs : Nat → Int32} {mc ms : Nat} {w : mW} {i : Int32} (hi0 : 0 ≤ i.toInt) (hi1 : i.toInt + 6 ≤ Ln) (hL : Ln ≤ 3072) (hV : IV w) (K : ∀ w', IV w' → XW 371 mr_371 (some (Ln, xs)) 91 mc ms Qone (2217, [(3, .int i), (2, .ref 94), (1, .ref 0), (0, .retAddr 0)], [], w')) : XW 371 mr_371 (some (Ln, xs)) 91 (mc + 1) (ms + 240) Qone (33, [(3, .int i), (2, .ref 94), (1, .ref 0), (0, .retAddr 0)], [.int (nI 15)], w) := by
  refine XW.fam (S' := (801, [(3, .int i), (2, .ref 94), (1, .ref 0), (0, .retAddr 0)], [], w)) (M := mr_371) rfl (show mcode 371 33 = some (33, _, _, _, _, _, _) from rfl) (Or.inr (Or.inl ⟨801, [], rfl, rfl⟩)) ?_
  exact case_15 hi0 hi1 hL hV K
set_option maxRecDepth 100000 in
theorem sw_16 {Ln : Nat} {xs : Nat → Int32} {mc ms : Nat} {w : mW} {i : Int32} (hi0 : 0 ≤ i.toInt) (hi1 : i.toInt + 6 ≤ Ln) (hL : Ln ≤ 3072) (hV : IV w) (K : ∀ w', IV w' → XW 371 mr_371 (some (Ln, xs)) 91 mc ms Qone (2217, [(3, .int i), (2, .ref 94), (1, .ref 0), (0, .retAddr 0)], [], w')) : XW 371 mr_371 (some (Ln, xs)) 91 (mc + 1) (ms + 240) Qone (33, [(3, .int i), (2, .ref 94), (1, .ref 0), (0, .retAddr 0)], [.int (nI 16)], w) := by
  refine XW.fam (S' := (844, [(3, .int i), (2, .ref 94), (1, .ref 0), (0, .retAddr 0)], [], w)) (M := mr_371) rfl (show mcode 371 33 = some (33, _, _, _, _, _, _) from rfl) (Or.inr (Or.inl ⟨844, [], rfl, rfl⟩)) ?_
  exact case_16 hi0 hi1 hL hV K
set_option maxRecDepth 100000 in
theorem sw_17 {Ln : Nat} {xs : Nat → Int32} {mc ms : Nat} {w : mW} {i : Int32} (hi0 : 0 ≤ i.toInt) (hi1 : i.toInt + 6 ≤ Ln) (hL : Ln ≤ 3072) (hV : IV w) (K : ∀ w', IV w' → XW 371 mr_371 (some (Ln, xs)) 91 mc ms Qone (2217, [(3, .int i), (2, .ref 94), (1, .ref 0), (0, .retAddr 0)], [], w')) : XW 371 mr_371 (some (Ln, xs)) 91 (mc + 1) (ms + 240) Qone (33, [(3, .int i), (2, .ref 94), (1, .ref 0), (0, .retAddr 0)], [.int (nI 17)], w) := by
  refine XW.fam (S' := (867, [(3, .int i), (2, .ref 94), (1, .ref 0), (0, .retAddr 0)], [], w)) (M := mr_371) rfl (show mcode 371 33 = some (33, _, _, _, _, _, _) from rfl) (Or.inr (Or.inl ⟨867, [], rfl, rfl⟩)) ?_
  exact case_17 hi0 hi1 hL hV K
set_option maxRecDepth 100000 in
theorem sw_18 {Ln : Nat} {xs : Nat → Int32} {mc ms : Nat} {w : mW} {i : Int32} (hi0 : 0 ≤ i.toInt) (hi1 : i.toInt + 6 ≤ Ln) (hL : Ln ≤ 3072) (hV : IV w) (K : ∀ w', IV w' → XW 371 mr_371 (some (Ln, xs)) 91 mc ms Qone (2217, [(3, .int i), (2, .ref 94), (1, .ref 0), (0, .retAddr 0)], [], w')) : XW 371 mr_371 (some (Ln, xs)) 91 (mc + 1) (ms + 240) Qone (33, [(3, .int i), (2, .ref 94), (1, .ref 0), (0, .retAddr 0)], [.int (nI 18)], w) := by
  refine XW.fam (S' := (920, [(3, .int i), (2, .ref 94), (1, .ref 0), (0, .retAddr 0)], [], w)) (M := mr_371) rfl (show mcode 371 33 = some (33, _, _, _, _, _, _) from rfl) (Or.inr (Or.inl ⟨920, [], rfl, rfl⟩)) ?_
  exact case_18 hi0 hi1 hL hV K
set_option maxRecDepth 100000 in
theorem sw_19 {Ln : Nat} {xs : Nat → Int32} {mc ms : Nat} {w : mW} {i : Int32} (hi0 : 0 ≤ i.toInt) (hi1 : i.toInt + 6 ≤ Ln) (hL : Ln ≤ 3072) (hV : IV w) (K : ∀ w', IV w' → XW 371 mr_371 (some (Ln, xs)) 91 mc ms Qone (2217, [(3, .int i), (2, .ref 94), (1, .ref 0), (0, .retAddr 0)], [], w')) : XW 371 mr_371 (some (Ln, xs)) 91 (mc + 1) (ms + 240) Qone (33, [(3, .int i), (2, .ref 94), (1, .ref 0), (0, .retAddr 0)], [.int (nI 19)], w) := by
  refine XW.fam (S' := (943, [(3, .int i), (2, .ref 94), (1, .ref 0), (0, .retAddr 0)], [], w)) (M := mr_371) rfl (show mcode 371 33 = some (33, _, _, _, _, _, _) from rfl) (Or.inr (Or.inl ⟨943, [], rfl, rfl⟩)) ?_
  exact case_19 hi0 hi1 hL hV K
set_option maxRecDepth 100000 in
theorem sw_20 {Ln : Nat} {xs : Nat → Int32} {mc ms : Nat} {w : mW} {i : Int32} (hi0 : 0 ≤ i.toInt) (hi1 : i.toInt + 6 ≤ Ln) (hL : Ln ≤ 3072) (hV : IV w) (K : ∀ w', IV w' → XW 371 mr_371 (some (Ln, xs)) 91 mc ms Qone (2217, [(3, .int i), (2, .ref 94), (1, .ref 0), (0, .retAddr 0)], [], w')) : XW 371 mr_371 (some (Ln, xs)) 91 (mc + 1) (ms + 240) Qone (33, [(3, .int i), (2, .ref 94), (1, .ref 0), (0, .retAddr 0)], [.int (nI 20)], w) := by
  refine XW.fam (S' := (1006, [(3, .int i), (2, .ref 94), (1, .ref 0), (0, .retAddr 0)], [], w)) (M := mr_371) rfl (show mcode 371 33 = some (33, _, _, _, _, _, _) from rfl) (Or.inr (Or.inl ⟨1006, [], rfl, rfl⟩)) ?_
  exact case_20 hi0 hi1 hL hV K
set_option maxRecDepth 100000 in
theorem sw_21 {Ln : Nat} {xs : Nat → Int32} {mc ms : Nat} {w : mW} {i : Int32} (hi0 : 0 ≤ i.toInt) (hi1 : i.toInt + 6 ≤ Ln) (hL : Ln ≤ 3072) (hV : IV w) (K : ∀ w', IV w' → XW 371 mr_371 (some (Ln, xs)) 91 mc ms Qone (2217, [(3, .int i), (2, .ref 94), (1, .ref 0), (0, .retAddr 0)], [], w')) : XW 371 mr_371 (some (Ln, xs)) 91 (mc + 1) (ms + 240) Qone (33, [(3, .int i), (2, .ref 94), (1, .ref 0), (0, .retAddr 0)], [.int (nI 21)], w) := by
  refine XW.fam (S' := (1029, [(3, .int i), (2, .ref 94), (1, .ref 0), (0, .retAddr 0)], [], w)) (M := mr_371) rfl (show mcode 371 33 = some (33, _, _, _, _, _, _) from rfl) (Or.inr (Or.inl ⟨1029, [], rfl, rfl⟩)) ?_
  exact case_21 hi0 hi1 hL hV K
set_option maxRecDepth 100000 in
theorem sw_22 {Ln : Nat} {xs : Nat → Int32} {mc ms : Nat} {w : mW} {i : Int32} (hi0 : 0 ≤ i.toInt) (hi1 : i.toInt + 6 ≤ Ln) (hL : Ln ≤ 3072) (hV : IV w) (K : ∀ w', IV w' → XW 371 mr_371 (some (Ln, xs)) 91 mc ms Qone (2217, [(3, .int i), (2, .ref 94), (1, .ref 0), (0, .retAddr 0)], [], w')) : XW 371 mr_371 (some (Ln, xs)) 91 (mc + 1) (ms + 240) Qone (33, [(3, .int i), (2, .ref 94), (1, .ref 0), (0, .retAddr 0)], [.int (nI 22)], w) := by
  refine XW.fam (S' := (1052, [(3, .int i), (2, .ref 94), (1, .ref 0), (0, .retAddr 0)], [], w)) (M := mr_371) rfl (show mcode 371 33 = some (33, _, _, _, _, _, _) from rfl) (Or.inr (Or.inl ⟨1052, [], rfl, rfl⟩)) ?_
  exact case_22 hi0 hi1 hL hV K
set_option maxRecDepth 100000 in
theorem sw_23 {Ln : Nat} {xs : Nat → Int32} {mc ms : Nat} {w : mW} {i : Int32} (hi0 : 0 ≤ i.toInt) (hi1 : i.toInt + 6 ≤ Ln) (hL : Ln ≤ 3072) (hV : IV w) (K : ∀ w', IV w' → XW 371 mr_371 (some (Ln, xs)) 91 mc ms Qone (2217, [(3, .int i), (2, .ref 94), (1, .ref 0), (0, .retAddr 0)], [], w')) : XW 371 mr_371 (some (Ln, xs)) 91 (mc + 1) (ms + 240) Qone (33, [(3, .int i), (2, .ref 94), (1, .ref 0), (0, .retAddr 0)], [.int (nI 23)], w) := by
  refine XW.fam (S' := (1095, [(3, .int i), (2, .ref 94), (1, .ref 0), (0, .retAddr 0)], [], w)) (M := mr_371) rfl (show mcode 371 33 = some (33, _, _, _, _, _, _) from rfl) (Or.inr (Or.inl ⟨1095, [], rfl, rfl⟩)) ?_
  exact case_23 hi0 hi1 hL hV K
set_option maxRecDepth 100000 in
theorem sw_24 {Ln : Nat} {xs : Nat → Int32} {mc ms : Nat} {w : mW} {i : Int32} (hi0 : 0 ≤ i.toInt) (hi1 : i.toInt + 6 ≤ Ln) (hL : Ln ≤ 3072) (hV : IV w) (K : ∀ w', IV w' → XW 371 mr_371 (some (Ln, xs)) 91 mc ms Qone (2217, [(3, .int i), (2, .ref 94), (1, .ref 0), (0, .retAddr 0)], [], w')) : XW 371 mr_371 (some (Ln, xs)) 91 (mc + 1) (ms + 240) Qone (33, [(3, .int i), (2, .ref 94), (1, .ref 0), (0, .retAddr 0)], [.int (nI 24)], w) := by
  refine XW.fam (S' := (1148, [(3, .int i), (2, .ref 94), (1, .ref 0), (0, .retAddr 0)], [], w)) (M := mr_371) rfl (show mcode 371 33 = some (33, _, _, _, _, _, _) from rfl) (Or.inr (Or.inl ⟨1148, [], rfl, rfl⟩)) ?_
  exact case_24 hi0 hi1 hL hV K
set_option maxRecDepth 100000 in
theorem sw_25 {Ln : Nat} {xs : Nat → Int32} {mc ms : Nat} {w : mW} {i : Int32} (hi0 : 0 ≤ i.toInt) (hi1 : i.toInt + 6 ≤ Ln) (hL : Ln ≤ 3072) (hV : IV w) (K : ∀ w', IV w' → XW 371 mr_371 (some (Ln, xs)) 91 mc ms Qone (2217, [(3, .int i), (2, .ref 94), (1, .ref 0), (0, .retAddr 0)], [], w')) : XW 371 mr_371 (some (Ln, xs)) 91 (mc + 1) (ms + 240) Qone (33, [(3, .int i), (2, .ref 94), (1, .ref 0), (0, .retAddr 0)], [.int (nI 25)], w) := by
  refine XW.fam (S' := (1181, [(3, .int i), (2, .ref 94), (1, .ref 0), (0, .retAddr 0)], [], w)) (M := mr_371) rfl (show mcode 371 33 = some (33, _, _, _, _, _, _) from rfl) (Or.inr (Or.inl ⟨1181, [], rfl, rfl⟩)) ?_
  exact case_25 hi0 hi1 hL hV K
set_option maxRecDepth 100000 in
theorem sw_26 {Ln : Nat} {xs : Nat → Int32} {mc ms : Nat} {w : mW} {i : Int32} (hi0 : 0 ≤ i.toInt) (hi1 : i.toInt + 6 ≤ Ln) (hL : Ln ≤ 3072) (hV : IV w) (K : ∀ w', IV w' → XW 371 mr_371 (some (Ln, xs)) 91 mc ms Qone (2217, [(3, .int i), (2, .ref 94), (1, .ref 0), (0, .retAddr 0)], [], w')) : XW 371 mr_371 (some (Ln, xs)) 91 (mc + 1) (ms + 240) Qone (33, [(3, .int i), (2, .ref 94), (1, .ref 0), (0, .retAddr 0)], [.int (nI 26)], w) := by
  refine XW.fam (S' := (1214, [(3, .int i), (2, .ref 94), (1, .ref 0), (0, .retAddr 0)], [], w)) (M := mr_371) rfl (show mcode 371 33 = some (33, _, _, _, _, _, _) from rfl) (Or.inr (Or.inl ⟨1214, [], rfl, rfl⟩)) ?_
  exact case_26 hi0 hi1 hL hV K
set_option maxRecDepth 100000 in
theorem sw_27 {Ln : Nat} {xs : Nat → Int32} {mc ms : Nat} {w : mW} {i : Int32} (hi0 : 0 ≤ i.toInt) (hi1 : i.toInt + 6 ≤ Ln) (hL : Ln ≤ 3072) (hV : IV w) (K : ∀ w', IV w' → XW 371 mr_371 (some (Ln, xs)) 91 mc ms Qone (2217, [(3, .int i), (2, .ref 94), (1, .ref 0), (0, .retAddr 0)], [], w')) : XW 371 mr_371 (some (Ln, xs)) 91 (mc + 1) (ms + 240) Qone (33, [(3, .int i), (2, .ref 94), (1, .ref 0), (0, .retAddr 0)], [.int (nI 27)], w) := by
  refine XW.fam (S' := (1257, [(3, .int i), (2, .ref 94), (1, .ref 0), (0, .retAddr 0)], [], w)) (M := mr_371) rfl (show mcode 371 33 = some (33, _, _, _, _, _, _) from rfl) (Or.inr (Or.inl ⟨1257, [], rfl, rfl⟩)) ?_
  exact case_27 hi0 hi1 hL hV K
set_option maxRecDepth 100000 in
theorem sw_28 {Ln : Nat} {xs : Nat → Int32} {mc ms : Nat} {w : mW} {i : Int32} (hi0 : 0 ≤ i.toInt) (hi1 : i.toInt + 6 ≤ Ln) (hL : Ln ≤ 3072) (hV : IV w) (K : ∀ w', IV w' → XW 371 mr_371 (some (Ln, xs)) 91 mc ms Qone (2217, [(3, .int i), (2, .ref 94), (1, .ref 0), (0, .retAddr 0)], [], w')) : XW 371 mr_371 (some (Ln, xs)) 91 (mc + 1) (ms + 240) Qone (33, [(3, .int i), (2, .ref 94), (1, .ref 0), (0, .retAddr 0)], [.int (nI 28)], w) := by
  refine XW.fam (S' := (1290, [(3, .int i), (2, .ref 94), (1, .ref 0), (0, .retAddr 0)], [], w)) (M := mr_371) rfl (show mcode 371 33 = some (33, _, _, _, _, _, _) from rfl) (Or.inr (Or.inl ⟨1290, [], rfl, rfl⟩)) ?_
  exact case_28 hi0 hi1 hL hV K
set_option maxRecDepth 100000 in
theorem sw_29 {Ln : Nat} {xs : Nat → Int32} {mc ms : Nat} {w : mW} {i : Int32} (hi0 : 0 ≤ i.toInt) (hi1 : i.toInt + 6 ≤ Ln) (hL : Ln ≤ 3072) (hV : IV w) (K : ∀ w', IV w' → XW 371 mr_371 (some (Ln, xs)) 91 mc ms Qone (2217, [(3, .int i), (2, .ref 94), (1, .ref 0), (0, .retAddr 0)], [], w')) : XW 371 mr_371 (some (Ln, xs)) 91 (mc + 1) (ms + 240) Qone (33, [(3, .int i), (2, .ref 94), (1, .ref 0), (0, .retAddr 0)], [.int (nI 29)], w) := by
  refine XW.fam (S' := (1323, [(3, .int i), (2, .ref 94), (1, .ref 0), (0, .retAddr 0)], [], w)) (M := mr_371) rfl (show mcode 371 33 = some (33, _, _, _, _, _, _) from rfl) (Or.inr (Or.inl ⟨1323, [], rfl, rfl⟩)) ?_
  exact case_29 hi0 hi1 hL hV K
set_option maxRecDepth 100000 in
theorem sw_30 {Ln : Nat} {xs : Nat → Int32} {mc ms : Nat} {w : mW} {i : Int32} (hi0 : 0 ≤ i.toInt) (hi1 : i.toInt + 6 ≤ Ln) (hL : Ln ≤ 3072) (hV : IV w) (K : ∀ w', IV w' → XW 371 mr_371 (some (Ln, xs)) 91 mc ms Qone (2217, [(3, .int i), (2, .ref 94), (1, .ref 0), (0, .retAddr 0)], [], w')) : XW 371 mr_371 (some (Ln, xs)) 91 (mc + 1) (ms + 240) Qone (33, [(3, .int i), (2, .ref 94), (1, .ref 0), (0, .retAddr 0)], [.int (nI 30)], w) := by
  refine XW.fam (S' := (1346, [(3, .int i), (2, .ref 94), (1, .ref 0), (0, .retAddr 0)], [], w)) (M := mr_371) rfl (show mcode 371 33 = some (33, _, _, _, _, _, _) from rfl) (Or.inr (Or.inl ⟨1346, [], rfl, rfl⟩)) ?_
  exact case_30 hi0 hi1 hL hV K
set_option maxRecDepth 100000 in
theorem sw_31 {Ln : Nat} {xs : Nat → Int32} {mc ms : Nat} {w : mW} {i : Int32} (hi0 : 0 ≤ i.toInt) (hi1 : i.toInt + 6 ≤ Ln) (hL : Ln ≤ 3072) (hV : IV w) (K : ∀ w', IV w' → XW 371 mr_371 (some (Ln, xs)) 91 mc ms Qone (2217, [(3, .int i), (2, .ref 94), (1, .ref 0), (0, .retAddr 0)], [], w')) : XW 371 mr_371 (some (Ln, xs)) 91 (mc + 1) (ms + 240) Qone (33, [(3, .int i), (2, .ref 94), (1, .ref 0), (0, .retAddr 0)], [.int (nI 31)], w) := by
  refine XW.fam (S' := (1379, [(3, .int i), (2, .ref 94), (1, .ref 0), (0, .retAddr 0)], [], w)) (M := mr_371) rfl (show mcode 371 33 = some (33, _, _, _, _, _, _) from rfl) (Or.inr (Or.inl ⟨1379, [], rfl, rfl⟩)) ?_
  exact case_31 hi0 hi1 hL hV K
set_option maxRecDepth 100000 in
theorem sw_32 {Ln : Nat} {xs : Nat → Int32} {mc ms : Nat} {w : mW} {i : Int32} (hi0 : 0 ≤ i.toInt) (hi1 : i.toInt + 6 ≤ Ln) (hL : Ln ≤ 3072) (hV : IV w) (K : ∀ w', IV w' → XW 371 mr_371 (some (Ln, xs)) 91 mc ms Qone (2217, [(3, .int i), (2, .ref 94), (1, .ref 0), (0, .retAddr 0)], [], w')) : XW 371 mr_371 (some (Ln, xs)) 91 (mc + 1) (ms + 240) Qone (33, [(3, .int i), (2, .ref 94), (1, .ref 0), (0, .retAddr 0)], [.int (nI 32)], w) := by
  refine XW.fam (S' := (1402, [(3, .int i), (2, .ref 94), (1, .ref 0), (0, .retAddr 0)], [], w)) (M := mr_371) rfl (show mcode 371 33 = some (33, _, _, _, _, _, _) from rfl) (Or.inr (Or.inl ⟨1402, [], rfl, rfl⟩)) ?_
  exact case_32 hi0 hi1 hL hV K
set_option maxRecDepth 100000 in
theorem sw_33 {Ln : Nat} {xs : Nat → Int32} {mc ms : Nat} {w : mW} {i : Int32} (hi0 : 0 ≤ i.toInt) (hi1 : i.toInt + 6 ≤ Ln) (hL : Ln ≤ 3072) (hV : IV w) (K : ∀ w', IV w' → XW 371 mr_371 (some (Ln, xs)) 91 mc ms Qone (2217, [(3, .int i), (2, .ref 94), (1, .ref 0), (0, .retAddr 0)], [], w')) : XW 371 mr_371 (some (Ln, xs)) 91 (mc + 1) (ms + 240) Qone (33, [(3, .int i), (2, .ref 94), (1, .ref 0), (0, .retAddr 0)], [.int (nI 33)], w) := by
  refine XW.fam (S' := (1435, [(3, .int i), (2, .ref 94), (1, .ref 0), (0, .retAddr 0)], [], w)) (M := mr_371) rfl (show mcode 371 33 = some (33, _, _, _, _, _, _) from rfl) (Or.inr (Or.inl ⟨1435, [], rfl, rfl⟩)) ?_
  exact case_33 hi0 hi1 hL hV K
set_option maxRecDepth 100000 in
theorem sw_34 {Ln : Nat} {xs : Nat → Int32} {mc ms : Nat} {w : mW} {i : Int32} (hi0 : 0 ≤ i.toInt) (hi1 : i.toInt + 6 ≤ Ln) (hL : Ln ≤ 3072) (hV : IV w) (K : ∀ w', IV w' → XW 371 mr_371 (some (Ln, xs)) 91 mc ms Qone (2217, [(3, .int i), (2, .ref 94), (1, .ref 0), (0, .retAddr 0)], [], w')) : XW 371 mr_371 (some (Ln, xs)) 91 (mc + 1) (ms + 240) Qone (33, [(3, .int i), (2, .ref 94), (1, .ref 0), (0, .retAddr 0)], [.int (nI 34)], w) := by
  refine XW.fam (S' := (1468, [(3, .int i), (2, .ref 94), (1, .ref 0), (0, .retAddr 0)], [], w)) (M := mr_371) rfl (show mcode 371 33 = some (33, _, _, _, _, _, _) from rfl) (Or.inr (Or.inl ⟨1468, [], rfl, rfl⟩)) ?_
  exact case_34 hi0 hi1 hL hV K
set_option maxRecDepth 100000 in
theorem sw_35 {Ln : Nat} {xs : Nat → Int32} {mc ms : Nat} {w : mW} {i : Int32} (hi0 : 0 ≤ i.toInt) (hi1 : i.toInt + 6 ≤ Ln) (hL : Ln ≤ 3072) (hV : IV w) (K : ∀ w', IV w' → XW 371 mr_371 (some (Ln, xs)) 91 mc ms Qone (2217, [(3, .int i), (2, .ref 94), (1, .ref 0), (0, .retAddr 0)], [], w')) : XW 371 mr_371 (some (Ln, xs)) 91 (mc + 1) (ms + 240) Qone (33, [(3, .int i), (2, .ref 94), (1, .ref 0), (0, .retAddr 0)], [.int (nI 35)], w) := by
  refine XW.fam (S' := (1501, [(3, .int i), (2, .ref 94), (1, .ref 0), (0, .retAddr 0)], [], w)) (M := mr_371) rfl (show mcode 371 33 = some (33, _, _, _, _, _, _) from rfl) (Or.inr (Or.inl ⟨1501, [], rfl, rfl⟩)) ?_
  exact case_35 hi0 hi1 hL hV K
set_option maxRecDepth 100000 in
theorem sw_36 {Ln : Nat} {xs : Nat → Int32} {mc ms : Nat} {w : mW} {i : Int32} (hi0 : 0 ≤ i.toInt) (hi1 : i.toInt + 6 ≤ Ln) (hL : Ln ≤ 3072) (hV : IV w) (K : ∀ w', IV w' → XW 371 mr_371 (some (Ln, xs)) 91 mc ms Qone (2217, [(3, .int i), (2, .ref 94), (1, .ref 0), (0, .retAddr 0)], [], w')) : XW 371 mr_371 (some (Ln, xs)) 91 (mc + 1) (ms + 240) Qone (33, [(3, .int i), (2, .ref 94), (1, .ref 0), (0, .retAddr 0)], [.int (nI 36)], w) := by
  refine XW.fam (S' := (1524, [(3, .int i), (2, .ref 94), (1, .ref 0), (0, .retAddr 0)], [], w)) (M := mr_371) rfl (show mcode 371 33 = some (33, _, _, _, _, _, _) from rfl) (Or.inr (Or.inl ⟨1524, [], rfl, rfl⟩)) ?_
  exact case_36 hi0 hi1 hL hV K
set_option maxRecDepth 100000 in
theorem sw_37 {Ln : Nat} {xs : Nat → Int32} {mc ms : Nat} {w : mW} {i : Int32} (hi0 : 0 ≤ i.toInt) (hi1 : i.toInt + 6 ≤ Ln) (hL : Ln ≤ 3072) (hV : IV w) (K : ∀ w', IV w' → XW 371 mr_371 (some (Ln, xs)) 91 mc ms Qone (2217, [(3, .int i), (2, .ref 94), (1, .ref 0), (0, .retAddr 0)], [], w')) : XW 371 mr_371 (some (Ln, xs)) 91 (mc + 1) (ms + 240) Qone (33, [(3, .int i), (2, .ref 94), (1, .ref 0), (0, .retAddr 0)], [.int (nI 37)], w) := by
  refine XW.fam (S' := (1537, [(3, .int i), (2, .ref 94), (1, .ref 0), (0, .retAddr 0)], [], w)) (M := mr_371) rfl (show mcode 371 33 = some (33, _, _, _, _, _, _) from rfl) (Or.inr (Or.inl ⟨1537, [], rfl, rfl⟩)) ?_
  exact case_37 hi0 hi1 hL hV K
set_option maxRecDepth 100000 in
theorem sw_38 {Ln : Nat} {xs : Nat → Int32} {mc ms : Nat} {w : mW} {i : Int32} (hi0 : 0 ≤ i.toInt) (hi1 : i.toInt + 6 ≤ Ln) (hL : Ln ≤ 3072) (hV : IV w) (K : ∀ w', IV w' → XW 371 mr_371 (some (Ln, xs)) 91 mc ms Qone (2217, [(3, .int i), (2, .ref 94), (1, .ref 0), (0, .retAddr 0)], [], w')) : XW 371 mr_371 (some (Ln, xs)) 91 (mc + 1) (ms + 240) Qone (33, [(3, .int i), (2, .ref 94), (1, .ref 0), (0, .retAddr 0)], [.int (nI 38)], w) := by
  refine XW.fam (S' := (1560, [(3, .int i), (2, .ref 94), (1, .ref 0), (0, .retAddr 0)], [], w)) (M := mr_371) rfl (show mcode 371 33 = some (33, _, _, _, _, _, _) from rfl) (Or.inr (Or.inl ⟨1560, [], rfl, rfl⟩)) ?_
  exact case_38 hi0 hi1 hL hV K
set_option maxRecDepth 100000 in
theorem sw_39 {Ln : Nat} {xs : Nat → Int32} {mc ms : Nat} {w : mW} {i : Int32} (hi0 : 0 ≤ i.toInt) (hi1 : i.toInt + 6 ≤ Ln) (hL : Ln ≤ 3072) (hV : IV w) (K : ∀ w', IV w' → XW 371 mr_371 (some (Ln, xs)) 91 mc ms Qone (2217, [(3, .int i), (2, .ref 94), (1, .ref 0), (0, .retAddr 0)], [], w')) : XW 371 mr_371 (some (Ln, xs)) 91 (mc + 1) (ms + 240) Qone (33, [(3, .int i), (2, .ref 94), (1, .ref 0), (0, .retAddr 0)], [.int (nI 39)], w) := by
  refine XW.fam (S' := (1593, [(3, .int i), (2, .ref 94), (1, .ref 0), (0, .retAddr 0)], [], w)) (M := mr_371) rfl (show mcode 371 33 = some (33, _, _, _, _, _, _) from rfl) (Or.inr (Or.inl ⟨1593, [], rfl, rfl⟩)) ?_
  exact case_39 hi0 hi1 hL hV K
set_option maxRecDepth 100000 in
theorem sw_40 {Ln : Nat} {xs : Nat → Int32} {mc ms : Nat} {w : mW} {i : Int32} (hi0 : 0 ≤ i.toInt) (hi1 : i.toInt + 6 ≤ Ln) (hL : Ln ≤ 3072) (hV : IV w) (K : ∀ w', IV w' → XW 371 mr_371 (some (Ln, xs)) 91 mc ms Qone (2217, [(3, .int i), (2, .ref 94), (1, .ref 0), (0, .retAddr 0)], [], w')) : XW 371 mr_371 (some (Ln, xs)) 91 (mc + 1) (ms + 240) Qone (33, [(3, .int i), (2, .ref 94), (1, .ref 0), (0, .retAddr 0)], [.int (nI 40)], w) := by
  refine XW.fam (S' := (1616, [(3, .int i), (2, .ref 94), (1, .ref 0), (0, .retAddr 0)], [], w)) (M := mr_371) rfl (show mcode 371 33 = some (33, _, _, _, _, _, _) from rfl) (Or.inr (Or.inl ⟨1616, [], rfl, rfl⟩)) ?_
  exact case_40 hi0 hi1 hL hV K
set_option maxRecDepth 100000 in
theorem sw_41 {Ln : Nat} {xs : Nat → Int32} {mc ms : Nat} {w : mW} {i : Int32} (hi0 : 0 ≤ i.toInt) (hi1 : i.toInt + 6 ≤ Ln) (hL : Ln ≤ 3072) (hV : IV w) (K : ∀ w', IV w' → XW 371 mr_371 (some (Ln, xs)) 91 mc ms Qone (2217, [(3, .int i), (2, .ref 94), (1, .ref 0), (0, .retAddr 0)], [], w')) : XW 371 mr_371 (some (Ln, xs)) 91 (mc + 1) (ms + 240) Qone (33, [(3, .int i), (2, .ref 94), (1, .ref 0), (0, .retAddr 0)], [.int (nI 41)], w) := by
  refine XW.fam (S' := (1639, [(3, .int i), (2, .ref 94), (1, .ref 0), (0, .retAddr 0)], [], w)) (M := mr_371) rfl (show mcode 371 33 = some (33, _, _, _, _, _, _) from rfl) (Or.inr (Or.inl ⟨1639, [], rfl, rfl⟩)) ?_
  exact case_41 hi0 hi1 hL hV K
set_option maxRecDepth 100000 in
theorem sw_42 {Ln : Nat} {xs : Nat → Int32} {mc ms : Nat} {w : mW} {i : Int32} (hi0 : 0 ≤ i.toInt) (hi1 : i.toInt + 6 ≤ Ln) (hL : Ln ≤ 3072) (hV : IV w) (K : ∀ w', IV w' → XW 371 mr_371 (some (Ln, xs)) 91 mc ms Qone (2217, [(3, .int i), (2, .ref 94), (1, .ref 0), (0, .retAddr 0)], [], w')) : XW 371 mr_371 (some (Ln, xs)) 91 (mc + 1) (ms + 240) Qone (33, [(3, .int i), (2, .ref 94), (1, .ref 0), (0, .retAddr 0)], [.int (nI 42)], w) := by
  refine XW.fam (S' := (1682, [(3, .int i), (2, .ref 94), (1, .ref 0), (0, .retAddr 0)], [], w)) (M := mr_371) rfl (show mcode 371 33 = some (33, _, _, _, _, _, _) from rfl) (Or.inr (Or.inl ⟨1682, [], rfl, rfl⟩)) ?_
  exact case_42 hi0 hi1 hL hV K
set_option maxRecDepth 100000 in
theorem sw_43 {Ln : Nat} {xs : Nat → Int32} {mc ms : Nat} {w : mW} {i : Int32} (hi0 : 0 ≤ i.toInt) (hi1 : i.toInt + 6 ≤ Ln) (hL : Ln ≤ 3072) (hV : IV w) (K : ∀ w', IV w' → XW 371 mr_371 (some (Ln, xs)) 91 mc ms Qone (2217, [(3, .int i), (2, .ref 94), (1, .ref 0), (0, .retAddr 0)], [], w')) : XW 371 mr_371 (some (Ln, xs)) 91 (mc + 1) (ms + 240) Qone (33, [(3, .int i), (2, .ref 94), (1, .ref 0), (0, .retAddr 0)], [.int (nI 43)], w) := by
  refine XW.fam (S' := (1695, [(3, .int i), (2, .ref 94), (1, .ref 0), (0, .retAddr 0)], [], w)) (M := mr_371) rfl (show mcode 371 33 = some (33, _, _, _, _, _, _) from rfl) (Or.inr (Or.inl ⟨1695, [], rfl, rfl⟩)) ?_
  exact case_43 hi0 hi1 hL hV K
set_option maxRecDepth 100000 in
theorem sw_44 {Ln : Nat} {xs : Nat → Int32} {mc ms : Nat} {w : mW} {i : Int32} (hi0 : 0 ≤ i.toInt) (hi1 : i.toInt + 6 ≤ Ln) (hL : Ln ≤ 3072) (hV : IV w) (K : ∀ w', IV w' → XW 371 mr_371 (some (Ln, xs)) 91 mc ms Qone (2217, [(3, .int i), (2, .ref 94), (1, .ref 0), (0, .retAddr 0)], [], w')) : XW 371 mr_371 (some (Ln, xs)) 91 (mc + 1) (ms + 240) Qone (33, [(3, .int i), (2, .ref 94), (1, .ref 0), (0, .retAddr 0)], [.int (nI 44)], w) := by
  refine XW.fam (S' := (1718, [(3, .int i), (2, .ref 94), (1, .ref 0), (0, .retAddr 0)], [], w)) (M := mr_371) rfl (show mcode 371 33 = some (33, _, _, _, _, _, _) from rfl) (Or.inr (Or.inl ⟨1718, [], rfl, rfl⟩)) ?_
  exact case_44 hi0 hi1 hL hV K
set_option maxRecDepth 100000 in
theorem sw_45 {Ln : Nat} {xs : Nat → Int32} {mc ms : Nat} {w : mW} {i : Int32} (hi0 : 0 ≤ i.toInt) (hi1 : i.toInt + 6 ≤ Ln) (hL : Ln ≤ 3072) (hV : IV w) (K : ∀ w', IV w' → XW 371 mr_371 (some (Ln, xs)) 91 mc ms Qone (2217, [(3, .int i), (2, .ref 94), (1, .ref 0), (0, .retAddr 0)], [], w')) : XW 371 mr_371 (some (Ln, xs)) 91 (mc + 1) (ms + 240) Qone (33, [(3, .int i), (2, .ref 94), (1, .ref 0), (0, .retAddr 0)], [.int (nI 45)], w) := by
  refine XW.fam (S' := (1751, [(3, .int i), (2, .ref 94), (1, .ref 0), (0, .retAddr 0)], [], w)) (M := mr_371) rfl (show mcode 371 33 = some (33, _, _, _, _, _, _) from rfl) (Or.inr (Or.inl ⟨1751, [], rfl, rfl⟩)) ?_
  exact case_45 hi0 hi1 hL hV K
set_option maxRecDepth 100000 in
theorem sw_46 {Ln : Nat} {xs : Nat → Int32} {mc ms : Nat} {w : mW} {i : Int32} (hi0 : 0 ≤ i.toInt) (hi1 : i.toInt + 6 ≤ Ln) (hL : Ln ≤ 3072) (hV : IV w) (K : ∀ w', IV w' → XW 371 mr_371 (some (Ln, xs)) 91 mc ms Qone (2217, [(3, .int i), (2, .ref 94), (1, .ref 0), (0, .retAddr 0)], [], w')) : XW 371 mr_371 (some (Ln, xs)) 91 (mc + 1) (ms + 240) Qone (33, [(3, .int i), (2, .ref 94), (1, .ref 0), (0, .retAddr 0)], [.int (nI 46)], w) := by
  refine XW.fam (S' := (1794, [(3, .int i), (2, .ref 94), (1, .ref 0), (0, .retAddr 0)], [], w)) (M := mr_371) rfl (show mcode 371 33 = some (33, _, _, _, _, _, _) from rfl) (Or.inr (Or.inl ⟨1794, [], rfl, rfl⟩)) ?_
  exact case_46 hi0 hi1 hL hV K
set_option maxRecDepth 100000 in
theorem sw_47 {Ln : Nat} {xs : Nat → Int32} {mc ms : Nat} {w : mW} {i : Int32} (hi0 : 0 ≤ i.toInt) (hi1 : i.toInt + 6 ≤ Ln) (hL : Ln ≤ 3072) (hV : IV w) (K : ∀ w', IV w' → XW 371 mr_371 (some (Ln, xs)) 91 mc ms Qone (2217, [(3, .int i), (2, .ref 94), (1, .ref 0), (0, .retAddr 0)], [], w')) : XW 371 mr_371 (some (Ln, xs)) 91 (mc + 1) (ms + 240) Qone (33, [(3, .int i), (2, .ref 94), (1, .ref 0), (0, .retAddr 0)], [.int (nI 47)], w) := by
  refine XW.fam (S' := (1837, [(3, .int i), (2, .ref 94), (1, .ref 0), (0, .retAddr 0)], [], w)) (M := mr_371) rfl (show mcode 371 33 = some (33, _, _, _, _, _, _) from rfl) (Or.inr (Or.inl ⟨1837, [], rfl, rfl⟩)) ?_
  exact case_47 hi0 hi1 hL hV K
set_option maxRecDepth 100000 in
theorem sw_48 {Ln : Nat} {xs : Nat → Int32} {mc ms : Nat} {w : mW} {i : Int32} (hi0 : 0 ≤ i.toInt) (hi1 : i.toInt + 6 ≤ Ln) (hL : Ln ≤ 3072) (hV : IV w) (K : ∀ w', IV w' → XW 371 mr_371 (some (Ln, xs)) 91 mc ms Qone (2217, [(3, .int i), (2, .ref 94), (1, .ref 0), (0, .retAddr 0)], [], w')) : XW 371 mr_371 (some (Ln, xs)) 91 (mc + 1) (ms + 240) Qone (33, [(3, .int i), (2, .ref 94), (1, .ref 0), (0, .retAddr 0)], [.int (nI 48)], w) := by
  refine XW.fam (S' := (1880, [(3, .int i), (2, .ref 94), (1, .ref 0), (0, .retAddr 0)], [], w)) (M := mr_371) rfl (show mcode 371 33 = some (33, _, _, _, _, _, _) from rfl) (Or.inr (Or.inl ⟨1880, [], rfl, rfl⟩)) ?_
  exact case_48 hi0 hi1 hL hV K
set_option maxRecDepth 100000 in
theorem sw_49 {Ln : Nat} {xs : Nat → Int32} {mc ms : Nat} {w : mW} {i : Int32} (hi0 : 0 ≤ i.toInt) (hi1 : i.toInt + 6 ≤ Ln) (hL : Ln ≤ 3072) (hV : IV w) (K : ∀ w', IV w' → XW 371 mr_371 (some (Ln, xs)) 91 mc ms Qone (2217, [(3, .int i), (2, .ref 94), (1, .ref 0), (0, .retAddr 0)], [], w')) : XW 371 mr_371 (some (Ln, xs)) 91 (mc + 1) (ms + 240) Qone (33, [(3, .int i), (2, .ref 94), (1, .ref 0), (0, .retAddr 0)], [.int (nI 49)], w) := by
  refine XW.fam (S' := (1903, [(3, .int i), (2, .ref 94), (1, .ref 0), (0, .retAddr 0)], [], w)) (M := mr_371) rfl (show mcode 371 33 = some (33, _, _, _, _, _, _) from rfl) (Or.inr (Or.inl ⟨1903, [], rfl, rfl⟩)) ?_
  exact case_49 hi0 hi1 hL hV K
set_option maxRecDepth 100000 in
theorem sw_50 {Ln : Nat} {xs : Nat → Int32} {mc ms : Nat} {w : mW} {i : Int32} (hi0 : 0 ≤ i.toInt) (hi1 : i.toInt + 6 ≤ Ln) (hL : Ln ≤ 3072) (hV : IV w) (K : ∀ w', IV w' → XW 371 mr_371 (some (Ln, xs)) 91 mc ms Qone (2217, [(3, .int i), (2, .ref 94), (1, .ref 0), (0, .retAddr 0)], [], w')) : XW 371 mr_371 (some (Ln, xs)) 91 (mc + 1) (ms + 240) Qone (33, [(3, .int i), (2, .ref 94), (1, .ref 0), (0, .retAddr 0)], [.int (nI 50)], w) := by
  refine XW.fam (S' := (1936, [(3, .int i), (2, .ref 94), (1, .ref 0), (0, .retAddr 0)], [], w)) (M := mr_371) rfl (show mcode 371 33 = some (33, _, _, _, _, _, _) from rfl) (Or.inr (Or.inl ⟨1936, [], rfl, rfl⟩)) ?_
  exact case_50 hi0 hi1 hL hV K
set_option maxRecDepth 100000 in
theorem sw_51 {Ln : Nat} {xs : Nat → Int32} {mc ms : Nat} {w : mW} {i : Int32} (hi0 : 0 ≤ i.toInt) (hi1 : i.toInt + 6 ≤ Ln) (hL : Ln ≤ 3072) (hV : IV w) (K : ∀ w', IV w' → XW 371 mr_371 (some (Ln, xs)) 91 mc ms Qone (2217, [(3, .int i), (2, .ref 94), (1, .ref 0), (0, .retAddr 0)], [], w')) : XW 371 mr_371 (some (Ln, xs)) 91 (mc + 1) (ms + 240) Qone (33, [(3, .int i), (2, .ref 94), (1, .ref 0), (0, .retAddr 0)], [.int (nI 51)], w) := by
  refine XW.fam (S' := (1979, [(3, .int i), (2, .ref 94), (1, .ref 0), (0, .retAddr 0)], [], w)) (M := mr_371) rfl (show mcode 371 33 = some (33, _, _, _, _, _, _) from rfl) (Or.inr (Or.inl ⟨1979, [], rfl, rfl⟩)) ?_
  exact case_51 hi0 hi1 hL hV K
set_option maxRecDepth 100000 in
theorem sw_52 {Ln : Nat} {xs : Nat → Int32} {mc ms : Nat} {w : mW} {i : Int32} (hi0 : 0 ≤ i.toInt) (hi1 : i.toInt + 6 ≤ Ln) (hL : Ln ≤ 3072) (hV : IV w) (K : ∀ w', IV w' → XW 371 mr_371 (some (Ln, xs)) 91 mc ms Qone (2217, [(3, .int i), (2, .ref 94), (1, .ref 0), (0, .retAddr 0)], [], w')) : XW 371 mr_371 (some (Ln, xs)) 91 (mc + 1) (ms + 240) Qone (33, [(3, .int i), (2, .ref 94), (1, .ref 0), (0, .retAddr 0)], [.int (nI 52)], w) := by
  refine XW.fam (S' := (2052, [(3, .int i), (2, .ref 94), (1, .ref 0), (0, .retAddr 0)], [], w)) (M := mr_371) rfl (show mcode 371 33 = some (33, _, _, _, _, _, _) from rfl) (Or.inr (Or.inl ⟨2052, [], rfl, rfl⟩)) ?_
  exact case_52 hi0 hi1 hL hV K
set_option maxRecDepth 100000 in
theorem sw_53 {Ln : Nat} {xs : Nat → Int32} {mc ms : Nat} {w : mW} {i : Int32} (hi0 : 0 ≤ i.toInt) (hi1 : i.toInt + 6 ≤ Ln) (hL : Ln ≤ 3072) (hV : IV w) (K : ∀ w', IV w' → XW 371 mr_371 (some (Ln, xs)) 91 mc ms Qone (2217, [(3, .int i), (2, .ref 94), (1, .ref 0), (0, .retAddr 0)], [], w')) : XW 371 mr_371 (some (Ln, xs)) 91 (mc + 1) (ms + 240) Qone (33, [(3, .int i), (2, .ref 94), (1, .ref 0), (0, .retAddr 0)], [.int (nI 53)], w) := by
  refine XW.fam (S' := (2085, [(3, .int i), (2, .ref 94), (1, .ref 0), (0, .retAddr 0)], [], w)) (M := mr_371) rfl (show mcode 371 33 = some (33, _, _, _, _, _, _) from rfl) (Or.inr (Or.inl ⟨2085, [], rfl, rfl⟩)) ?_
  exact case_53 hi0 hi1 hL hV K
set_option maxRecDepth 100000 in
theorem sw_54 {Ln : Nat} {xs : Nat → Int32} {mc ms : Nat} {w : mW} {i : Int32} (hi0 : 0 ≤ i.toInt) (hi1 : i.toInt + 6 ≤ Ln) (hL : Ln ≤ 3072) (hV : IV w) (K : ∀ w', IV w' → XW 371 mr_371 (some (Ln, xs)) 91 mc ms Qone (2217, [(3, .int i), (2, .ref 94), (1, .ref 0), (0, .retAddr 0)], [], w')) : XW 371 mr_371 (some (Ln, xs)) 91 (mc + 1) (ms + 240) Qone (33, [(3, .int i), (2, .ref 94), (1, .ref 0), (0, .retAddr 0)], [.int (nI 54)], w) := by
  refine XW.fam (S' := (2148, [(3, .int i), (2, .ref 94), (1, .ref 0), (0, .retAddr 0)], [], w)) (M := mr_371) rfl (show mcode 371 33 = some (33, _, _, _, _, _, _) from rfl) (Or.inr (Or.inl ⟨2148, [], rfl, rfl⟩)) ?_
  exact case_54 hi0 hi1 hL hV K
set_option maxRecDepth 100000 in
theorem sw_55 {Ln : Nat} {xs : Nat → Int32} {mc ms : Nat} {w : mW} {i : Int32} (hi0 : 0 ≤ i.toInt) (hi1 : i.toInt + 6 ≤ Ln) (hL : Ln ≤ 3072) (hV : IV w) (K : ∀ w', IV w' → XW 371 mr_371 (some (Ln, xs)) 91 mc ms Qone (2217, [(3, .int i), (2, .ref 94), (1, .ref 0), (0, .retAddr 0)], [], w')) : XW 371 mr_371 (some (Ln, xs)) 91 (mc + 1) (ms + 240) Qone (33, [(3, .int i), (2, .ref 94), (1, .ref 0), (0, .retAddr 0)], [.int (nI 55)], w) := by
  refine XW.fam (S' := (2181, [(3, .int i), (2, .ref 94), (1, .ref 0), (0, .retAddr 0)], [], w)) (M := mr_371) rfl (show mcode 371 33 = some (33, _, _, _, _, _, _) from rfl) (Or.inr (Or.inl ⟨2181, [], rfl, rfl⟩)) ?_
  exact case_55 hi0 hi1 hL hV K
set_option maxRecDepth 100000 in
theorem sw_56 {Ln : Nat} {xs : Nat → Int32} {mc ms : Nat} {w : mW} {i : Int32} (hi0 : 0 ≤ i.toInt) (hi1 : i.toInt + 6 ≤ Ln) (hL : Ln ≤ 3072) (hV : IV w) (K : ∀ w', IV w' → XW 371 mr_371 (some (Ln, xs)) 91 mc ms Qone (2217, [(3, .int i), (2, .ref 94), (1, .ref 0), (0, .retAddr 0)], [], w')) : XW 371 mr_371 (some (Ln, xs)) 91 (mc + 1) (ms + 240) Qone (33, [(3, .int i), (2, .ref 94), (1, .ref 0), (0, .retAddr 0)], [.int (nI 56)], w) := by
  refine XW.fam (S' := (2194, [(3, .int i), (2, .ref 94), (1, .ref 0), (0, .retAddr 0)], [], w)) (M := mr_371) rfl (show mcode 371 33 = some (33, _, _, _, _, _, _) from rfl) (Or.inr (Or.inl ⟨2194, [], rfl, rfl⟩)) ?_
  exact case_56 hi0 hi1 hL hV K
set_option maxRecDepth 100000 in
theorem sw_57 {Ln : Nat} {xs : Nat → Int32} {mc ms : Nat} {w : mW} {i : Int32} (hi0 : 0 ≤ i.toInt) (hi1 : i.toInt + 6 ≤ Ln) (hL : Ln ≤ 3072) (hV : IV w) (K : ∀ w', IV w' → XW 371 mr_371 (some (Ln, xs)) 91 mc ms Qone (2217, [(3, .int i), (2, .ref 94), (1, .ref 0), (0, .retAddr 0)], [], w')) : XW 371 mr_371 (some (Ln, xs)) 91 (mc + 1) (ms + 240) Qone (33, [(3, .int i), (2, .ref 94), (1, .ref 0), (0, .retAddr 0)], [.int (nI 57)], w) := by
  refine XW.fam (S' := (2217, [(3, .int i), (2, .ref 94), (1, .ref 0), (0, .retAddr 0)], [], w)) (M := mr_371) rfl (show mcode 371 33 = some (33, _, _, _, _, _, _) from rfl) (Or.inr (Or.inl ⟨2217, [], rfl, rfl⟩)) ?_
  exact XW.wid (mc := mc) (ms := ms) (by omega) (by omega) (K w hV)
set_option maxRecDepth 100000 in
theorem sw_58 {Ln : Nat} {xs : Nat → Int32} {mc ms : Nat} {w : mW} {i : Int32} (hi0 : 0 ≤ i.toInt) (hi1 : i.toInt + 6 ≤ Ln) (hL : Ln ≤ 3072) (hV : IV w) (K : ∀ w', IV w' → XW 371 mr_371 (some (Ln, xs)) 91 mc ms Qone (2217, [(3, .int i), (2, .ref 94), (1, .ref 0), (0, .retAddr 0)], [], w')) : XW 371 mr_371 (some (Ln, xs)) 91 (mc + 1) (ms + 240) Qone (33, [(3, .int i), (2, .ref 94), (1, .ref 0), (0, .retAddr 0)], [.int (nI 58)], w) := by
  refine XW.fam (S' := (2217, [(3, .int i), (2, .ref 94), (1, .ref 0), (0, .retAddr 0)], [], w)) (M := mr_371) rfl (show mcode 371 33 = some (33, _, _, _, _, _, _) from rfl) (Or.inr (Or.inl ⟨2217, [], rfl, rfl⟩)) ?_
  exact XW.wid (mc := mc) (ms := ms) (by omega) (by omega) (K w hV)
set_option maxRecDepth 100000 in
theorem sw_59 {Ln : Nat} {xs : Nat → Int32} {mc ms : Nat} {w : mW} {i : Int32} (hi0 : 0 ≤ i.toInt) (hi1 : i.toInt + 6 ≤ Ln) (hL : Ln ≤ 3072) (hV : IV w) (K : ∀ w', IV w' → XW 371 mr_371 (some (Ln, xs)) 91 mc ms Qone (2217, [(3, .int i), (2, .ref 94), (1, .ref 0), (0, .retAddr 0)], [], w')) : XW 371 mr_371 (some (Ln, xs)) 91 (mc + 1) (ms + 240) Qone (33, [(3, .int i), (2, .ref 94), (1, .ref 0), (0, .retAddr 0)], [.int (nI 59)], w) := by
  refine XW.fam (S' := (2217, [(3, .int i), (2, .ref 94), (1, .ref 0), (0, .retAddr 0)], [], w)) (M := mr_371) rfl (show mcode 371 33 = some (33, _, _, _, _, _, _) from rfl) (Or.inr (Or.inl ⟨2217, [], rfl, rfl⟩)) ?_
  exact XW.wid (mc := mc) (ms := ms) (by omega) (by omega) (K w hV)
set_option maxRecDepth 100000 in
theorem sw_60 {Ln : Nat} {xs : Nat → Int32} {mc ms : Nat} {w : mW} {i : Int32} (hi0 : 0 ≤ i.toInt) (hi1 : i.toInt + 6 ≤ Ln) (hL : Ln ≤ 3072) (hV : IV w) (K : ∀ w', IV w' → XW 371 mr_371 (some (Ln, xs)) 91 mc ms Qone (2217, [(3, .int i), (2, .ref 94), (1, .ref 0), (0, .retAddr 0)], [], w')) : XW 371 mr_371 (some (Ln, xs)) 91 (mc + 1) (ms + 240) Qone (33, [(3, .int i), (2, .ref 94), (1, .ref 0), (0, .retAddr 0)], [.int (nI 60)], w) := by
  refine XW.fam (S' := (2217, [(3, .int i), (2, .ref 94), (1, .ref 0), (0, .retAddr 0)], [], w)) (M := mr_371) rfl (show mcode 371 33 = some (33, _, _, _, _, _, _) from rfl) (Or.inr (Or.inl ⟨2217, [], rfl, rfl⟩)) ?_
  exact XW.wid (mc := mc) (ms := ms) (by omega) (by omega) (K w hV)
set_option maxRecDepth 100000 in
theorem sw_61 {Ln : Nat} {xs : Nat → Int32} {mc ms : Nat} {w : mW} {i : Int32} (hi0 : 0 ≤ i.toInt) (hi1 : i.toInt + 6 ≤ Ln) (hL : Ln ≤ 3072) (hV : IV w) (K : ∀ w', IV w' → XW 371 mr_371 (some (Ln, xs)) 91 mc ms Qone (2217, [(3, .int i), (2, .ref 94), (1, .ref 0), (0, .retAddr 0)], [], w')) : XW 371 mr_371 (some (Ln, xs)) 91 (mc + 1) (ms + 240) Qone (33, [(3, .int i), (2, .ref 94), (1, .ref 0), (0, .retAddr 0)], [.int (nI 61)], w) := by
  refine XW.fam (S' := (2217, [(3, .int i), (2, .ref 94), (1, .ref 0), (0, .retAddr 0)], [], w)) (M := mr_371) rfl (show mcode 371 33 = some (33, _, _, _, _, _, _) from rfl) (Or.inr (Or.inl ⟨2217, [], rfl, rfl⟩)) ?_
  exact XW.wid (mc := mc) (ms := ms) (by omega) (by omega) (K w hV)
set_option maxRecDepth 100000 in
theorem sw_62 {Ln : Nat} {xs : Nat → Int32} {mc ms : Nat} {w : mW} {i : Int32} (hi0 : 0 ≤ i.toInt) (hi1 : i.toInt + 6 ≤ Ln) (hL : Ln ≤ 3072) (hV : IV w) (K : ∀ w', IV w' → XW 371 mr_371 (some (Ln, xs)) 91 mc ms Qone (2217, [(3, .int i), (2, .ref 94), (1, .ref 0), (0, .retAddr 0)], [], w')) : XW 371 mr_371 (some (Ln, xs)) 91 (mc + 1) (ms + 240) Qone (33, [(3, .int i), (2, .ref 94), (1, .ref 0), (0, .retAddr 0)], [.int (nI 62)], w) := by
  refine XW.fam (S' := (2217, [(3, .int i), (2, .ref 94), (1, .ref 0), (0, .retAddr 0)], [], w)) (M := mr_371) rfl (show mcode 371 33 = some (33, _, _, _, _, _, _) from rfl) (Or.inr (Or.inl ⟨2217, [], rfl, rfl⟩)) ?_
  exact XW.wid (mc := mc) (ms := ms) (by omega) (by omega) (K w hV)
set_option maxRecDepth 100000 in
theorem sw_63 {Ln : Nat} {xs : Nat → Int32} {mc ms : Nat} {w : mW} {i : Int32} (hi0 : 0 ≤ i.toInt) (hi1 : i.toInt + 6 ≤ Ln) (hL : Ln ≤ 3072) (hV : IV w) (K : ∀ w', IV w' → XW 371 mr_371 (some (Ln, xs)) 91 mc ms Qone (2217, [(3, .int i), (2, .ref 94), (1, .ref 0), (0, .retAddr 0)], [], w')) : XW 371 mr_371 (some (Ln, xs)) 91 (mc + 1) (ms + 240) Qone (33, [(3, .int i), (2, .ref 94), (1, .ref 0), (0, .retAddr 0)], [.int (nI 63)], w) := by
  refine XW.fam (S' := (2217, [(3, .int i), (2, .ref 94), (1, .ref 0), (0, .retAddr 0)], [], w)) (M := mr_371) rfl (show mcode 371 33 = some (33, _, _, _, _, _, _) from rfl) (Or.inr (Or.inl ⟨2217, [], rfl, rfl⟩)) ?_
  exact XW.wid (mc := mc) (ms := ms) (by omega) (by omega) (K w hV)
theorem sw_all {Ln : Nat} {xs : Nat → Int32} {mc ms : Nat} {w : mW} {i : Int32} (hi0 : 0 ≤ i.toInt) (hi1 : i.toInt + 6 ≤ Ln) (hL : Ln ≤ 3072) (hV : IV w) (K : ∀ w', IV w' → XW 371 mr_371 (some (Ln, xs)) 91 mc ms Qone (2217, [(3, .int i), (2, .ref 94), (1, .ref 0), (0, .retAddr 0)], [], w')) : ∀ k ∈ ([0, 1, 2, 3, 4, 5, 6, 7, 8, 9, 10, 11, 12, 13, 14, 15, 16, 17, 18, 19, 20, 21, 22, 23, 24, 25, 26, 27, 28, 29, 30, 31, 32, 33, 34, 35, 36, 37, 38, 39, 40, 41, 42, 43, 44, 45, 46, 47, 48, 49, 50, 51, 52, 53, 54, 55, 56, 57, 58, 59, 60, 61, 62, 63] : List Nat), XW 371 mr_371 (some (Ln, xs)) 91 (mc + 1) (ms + 240) Qone (33, [(3, .int i), (2, .ref 94), (1, .ref 0), (0, .retAddr 0)], [.int (nI k)], w) :=
  List.forall_mem_cons.mpr ⟨sw_0 hi0 hi1 hL hV K, List.forall_mem_cons.mpr ⟨sw_1 hi0 hi1 hL hV K, List.forall_mem_cons.mpr ⟨sw_2 hi0 hi1 hL hV K, List.forall_mem_cons.mpr ⟨sw_3 hi0 hi1 hL hV K, List.forall_mem_cons.mpr ⟨sw_4 hi0 hi1 hL hV K, List.forall_mem_cons.mpr ⟨sw_5 hi0 hi1 hL hV K, List.forall_mem_cons.mpr ⟨sw_6 hi0 hi1 hL hV K, List.forall_mem_cons.mpr ⟨sw_7 hi0 hi1 hL hV K, List.forall_mem_cons.mpr ⟨sw_8 hi0 hi1 hL hV K, List.forall_mem_cons.mpr ⟨sw_9 hi0 hi1 hL hV K, List.forall_mem_cons.mpr ⟨sw_10 hi0 hi1 hL hV K, List.forall_mem_cons.mpr ⟨sw_11 hi0 hi1 hL hV K, List.forall_mem_cons.mpr ⟨sw_12 hi0 hi1 hL hV K, List.forall_mem_cons.mpr ⟨sw_13 hi0 hi1 hL hV K, List.forall_mem_cons.mpr ⟨sw_14 hi0 hi1 hL hV K, List.forall_mem_cons.mpr ⟨sw_15 hi0 hi1 hL hV K, List.forall_mem_cons.mpr ⟨sw_16 hi0 hi1 hL hV K, List.forall_mem_cons.mpr ⟨sw_17 hi0 hi1 hL hV K, List.forall_mem_cons.mpr ⟨sw_18 hi0 hi1 hL hV K, List.forall_mem_cons.mpr ⟨sw_19 hi0 hi1 hL hV K, List.forall_mem_cons.mpr ⟨sw_20 hi0 hi1 hL hV K, List.forall_mem_cons.mpr ⟨sw_21 hi0 hi1 hL hV K, List.forall_mem_cons.mpr ⟨sw_22 hi0 hi1 hL hV K, List.forall_mem_cons.mpr ⟨sw_23 hi0 hi1 hL hV K, List.forall_mem_cons.mpr ⟨sw_24 hi0 hi1 hL hV K, List.forall_mem_cons.mpr ⟨sw_25 hi0 hi1 hL hV K, List.forall_mem_cons.mpr ⟨sw_26 hi0 hi1 hL hV K, List.forall_mem_cons.mpr ⟨sw_27 hi0 hi1 hL hV K, List.forall_mem_cons.mpr ⟨sw_28 hi0 hi1 hL hV K, List.forall_mem_cons.mpr ⟨sw_29 hi0 hi1 hL hV K, List.forall_mem_cons.mpr ⟨sw_30 hi0 hi1 hL hV K, List.forall_mem_cons.mpr ⟨sw_31 hi0 hi1 hL hV K, List.forall_mem_cons.mpr ⟨sw_32 hi0 hi1 hL hV K, List.forall_mem_cons.mpr ⟨sw_33 hi0 hi1 hL hV K, List.forall_mem_cons.mpr ⟨sw_34 hi0 hi1 hL hV K, List.forall_mem_cons.mpr ⟨sw_35 hi0 hi1 hL hV K, List.forall_mem_cons.mpr ⟨sw_36 hi0 hi1 hL hV K, List.forall_mem_cons.mpr ⟨sw_37 hi0 hi1 hL hV K, List.forall_mem_cons.mpr ⟨sw_38 hi0 hi1 hL hV K, List.forall_mem_cons.mpr ⟨sw_39 hi0 hi1 hL hV K, List.forall_mem_cons.mpr ⟨sw_40 hi0 hi1 hL hV K, List.forall_mem_cons.mpr ⟨sw_41 hi0 hi1 hL hV K, List.forall_mem_cons.mpr ⟨sw_42 hi0 hi1 hL hV K, List.forall_mem_cons.mpr ⟨sw_43 hi0 hi1 hL hV K, List.forall_mem_cons.mpr ⟨sw_44 hi0 hi1 hL hV K, List.forall_mem_cons.mpr ⟨sw_45 hi0 hi1 hL hV K, List.forall_mem_cons.mpr ⟨sw_46 hi0 hi1 hL hV K, List.forall_mem_cons.mpr ⟨sw_47 hi0 hi1 hL hV K, List.forall_mem_cons.mpr ⟨sw_48 hi0 hi1 hL hV K, List.forall_mem_cons.mpr ⟨sw_49 hi0 hi1 hL hV K, List.forall_mem_cons.mpr ⟨sw_50 hi0 hi1 hL hV K, List.forall_mem_cons.mpr ⟨sw_51 hi0 hi1 hL hV K, List.forall_mem_cons.mpr ⟨sw_52 hi0 hi1 hL hV K, List.forall_mem_cons.mpr ⟨sw_53 hi0 hi1 hL hV K, List.forall_mem_cons.mpr ⟨sw_54 hi0 hi1 hL hV K, List.forall_mem_cons.mpr ⟨sw_55 hi0 hi1 hL hV K, List.forall_mem_cons.mpr ⟨sw_56 hi0 hi1 hL hV K, List.forall_mem_cons.mpr ⟨sw_57 hi0 hi1 hL hV K, List.forall_mem_cons.mpr ⟨sw_58 hi0 hi1 hL hV K, List.forall_mem_cons.mpr ⟨sw_59 hi0 hi1 hL hV K, List.forall_mem_cons.mpr ⟨sw_60 hi0 hi1 hL hV K, List.forall_mem_cons.mpr ⟨sw_61 hi0 hi1 hL hV K, List.forall_mem_cons.mpr ⟨sw_62 hi0 hi1 hL hV K, List.forall_mem_cons.mpr ⟨sw_63 hi0 hi1 hL hV K, (fun _ h => absurd h List.not_mem_nil)⟩⟩⟩⟩⟩⟩⟩⟩⟩⟩⟩⟩⟩⟩⟩⟩⟩⟩⟩⟩⟩⟩⟩⟩⟩⟩⟩⟩⟩⟩⟩⟩⟩⟩⟩⟩⟩⟩⟩⟩⟩⟩⟩⟩⟩⟩⟩⟩⟩⟩⟩⟩⟩⟩⟩⟩⟩⟩⟩⟩⟩⟩⟩⟩
theorem law_loop {Ln : Nat} {xs : Nat → Int32} (hL : Ln ≤ 3072) : ∀ (n : Nat) (i : Int32) (w : mW), 0 ≤ i.toInt → i.toInt ≤ 3078 → (Ln : Int) - i.toInt ≤ 6 * n → IV w → XW 371 mr_371 (some (Ln, xs)) 91 n (240 * n) Qone (18, [(3, .int i), (2, .ref 94), (1, .ref 0), (0, .retAddr 0)], [], w) := by
  intro n
  have eL : (Int32.ofNat Ln).toInt = Ln := Int32.toInt_ofNat_of_lt (by omega)
  have eS : (Int32.ofNat Ln - 6).toInt = (Ln : Int) - 6 := by
    rw [Int32.toInt_sub, eL]
    have e : (6 : Int32).toInt = 6 := rfl
    rw [e]
    exact bm32 (by unfold lo32; omega) (by unfold hi32; omega)
  induction n with
  | zero => ?_
  | succ n ih => ?_
  all_goals
    intro i w hi0 hi2 hn hV
    refine XW.fam (S' := (19, [(3, .int i), (2, .ref 94), (1, .ref 0), (0, .retAddr 0)], [.int i], w)) (M := mr_371) rfl (show mcode 371 18 = some (18, .iload_n 3, 1, 0, 0, 0, _) from rfl) (Or.inl ⟨.int i, rfl, rfl⟩) ?_
    refine XW.fam (S' := (20, [(3, .int i), (2, .ref 94), (1, .ref 0), (0, .retAddr 0)], [.retAddr 0, .int i], w)) (M := mr_371) rfl (show mcode 371 19 = some (19, .aload_n 0, 1, 0, 0, 0, _) from rfl) (Or.inl ⟨.retAddr 0, rfl, rfl⟩) ?_
    refine XW.fam (S' := (21, [(3, .int i), (2, .ref 94), (1, .ref 0), (0, .retAddr 0)], [.int (Int32.ofNat Ln), .int i], w)) (M := mr_371) rfl (show mcode 371 20 = some (20, .arraylength, 1, 0, 0, 0, _) from rfl) (Or.inr (Or.inr (Or.inl ⟨_, rfl, rfl⟩))) ?_
    refine XW.fam (S' := (23, [(3, .int i), (2, .ref 94), (1, .ref 0), (0, .retAddr 0)], [.int 6, .int (Int32.ofNat Ln), .int i], w)) (M := mr_371) rfl (show mcode 371 21 = some (21, .bipush 6, 2, 0, 0, 0, _) from rfl) (Or.inl ⟨.int 6, rfl, rfl⟩) ?_
    refine XW.fam (S' := (24, [(3, .int i), (2, .ref 94), (1, .ref 0), (0, .retAddr 0)], [.int (Int32.ofNat Ln - 6), .int i], w)) (M := mr_371) rfl (show mcode 371 23 = some (23, .isub, 1, 0, 0, 0, _) from rfl) (Or.inr (Or.inr (Or.inr (Or.inr (Or.inr (Or.inl ⟨_, rfl, rfl⟩)))))) ?_
    by_cases c : bcmp .gt i (Int32.ofNat Ln - 6) = true
    · skip
      refine XW.fam (S' := (2223, [(3, .int i), (2, .ref 94), (1, .ref 0), (0, .retAddr 0)], [], w)) (M := mr_371) rfl (show mcode 371 24 = some (24, .if_icmp .gt 2199, 3, 2223, 0, 0, _) from rfl) (Or.inr (Or.inl ⟨2223, [], by simp [brn, c], rfl⟩)) ?_
      refine XW.fam (S' := (2224, [(3, .int i), (2, .ref 94), (1, .ref 0), (0, .retAddr 0)], [.int 1], w)) (M := mr_371) rfl (show mcode 371 2223 = some (2223, .iconst 1, 1, 0, 0, 0, _) from rfl) (Or.inl ⟨.int 1, rfl, rfl⟩) ?_
      exact XW.ret (r := some (.int 1)) ⟨⟨.boolean, rfl, rfl⟩, by decide +kernel⟩ rfl
    have hi1 : i.toInt + 6 ≤ Ln := by
      simp only [bcmp, decide_eq_true_eq, Int32.lt_iff_toInt_lt] at c
      omega
  · omega
  · skip
    refine XW.fam (S' := (27, [(3, .int i), (2, .ref 94), (1, .ref 0), (0, .retAddr 0)], [], w)) (M := mr_371) rfl (show mcode 371 24 = some (24, .if_icmp .gt 2199, 3, 2223, 0, 0, _) from rfl) (Or.inr (Or.inl ⟨27, [], by simp [brn, c], rfl⟩)) ?_
    refine XW.fam (S' := (28, [(3, .int i), (2, .ref 94), (1, .ref 0), (0, .retAddr 0)], [.retAddr 0], w)) (M := mr_371) rfl (show mcode 371 27 = some (27, .aload_n 0, 1, 0, 0, 0, _) from rfl) (Or.inl ⟨.retAddr 0, rfl, rfl⟩) ?_
    refine XW.fam (S' := (29, [(3, .int i), (2, .ref 94), (1, .ref 0), (0, .retAddr 0)], [.int i, .retAddr 0], w)) (M := mr_371) rfl (show mcode 371 28 = some (28, .iload_n 3, 1, 0, 0, 0, _) from rfl) (Or.inl ⟨.int i, rfl, rfl⟩) ?_
    have hin : inR i Ln = true := inR_of hi0 (by omega)
    refine XW.fam (S' := (30, [(3, .int i), (2, .ref 94), (1, .ref 0), (0, .retAddr 0)], [.int (xs i.toNatClampNeg)], w)) (M := mr_371) rfl (show mcode 371 29 = some (29, .iaload, 1, 0, 0, 0, _) from rfl) (Or.inr (Or.inr (Or.inl ⟨_, by simp [lda, hin], rfl⟩))) ?_
    refine XW.fam (S' := (32, [(3, .int i), (2, .ref 94), (1, .ref 0), (0, .retAddr 0)], [.int 63, .int (xs i.toNatClampNeg)], w)) (M := mr_371) rfl (show mcode 371 30 = some (30, .bipush 63, 2, 0, 0, 0, _) from rfl) (Or.inl ⟨.int 63, rfl, rfl⟩) ?_
    refine XW.fam (S' := (33, [(3, .int i), (2, .ref 94), (1, .ref 0), (0, .retAddr 0)], [.int (xs i.toNatClampNeg &&& 63)], w)) (M := mr_371) rfl (show mcode 371 32 = some (32, .iand, 1, 0, 0, 0, _) from rfl) (Or.inr (Or.inr (Or.inr (Or.inr (Or.inr (Or.inl ⟨_, rfl, rfl⟩)))))) ?_
    obtain ⟨k, hk, e⟩ := pk_andE (xs i.toNatClampNeg) (m := 63) 6 (by decide)
    rw [e]
    refine sw_all (mc := n) (ms := 240 * n) hi0 hi1 hL hV (fun w' hV' => ?_) k (by have h : k ∈ List.range 64 := List.mem_range.mpr hk; exact h)
    have e6 : (i + Int32.ofInt 6).toInt = i.toInt + 6 := by
      rw [Int32.toInt_add]
      have e : (Int32.ofInt 6).toInt = 6 := rfl
      rw [e]
      exact bm32 (by unfold lo32; omega) (by unfold hi32; omega)
    refine XW.fam (S' := (2220, [(3, .int (i + Int32.ofInt 6)), (2, .ref 94), (1, .ref 0), (0, .retAddr 0)], [], w')) (M := mr_371) rfl (show mcode 371 2217 = some (2217, .iinc 3 6, 3, 0, 0, 0, _) from rfl) (Or.inr (Or.inr (Or.inr (Or.inr (Or.inr (Or.inr (Or.inr (Or.inr (Or.inr ⟨3, 6, i, rfl, rfl, by decide, rfl⟩))))))))) ?_
    refine XW.fam (S' := (18, [(3, .int (i + Int32.ofInt 6)), (2, .ref 94), (1, .ref 0), (0, .retAddr 0)], [], w')) (M := mr_371) rfl (show mcode 371 2220 = some (2220, .goto (-2202), 3, 18, 0, 0, _) from rfl) (Or.inr (Or.inl ⟨18, [], rfl, rfl⟩)) ?_
    exact ih _ w' (by omega) (by omega) (by omega) hV'
