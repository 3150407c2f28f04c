/-! ===== one step by families ===== -/
/-- a step that is neither a call nor a return nor a new cell -/
noncomputable def pst (M : mMt) (X : mX) (ins : Instr) (len a b : Nat) (v : Int) (S S' : mS) : Prop :=
  (∃ u, psh ins S.2.1 = some u ∧ S' = (S.1 + len, S.2.1, u :: S.2.2.1, S.2.2.2))
  ∨ (∃ pc' st', brn S.1 a ins S.2.2.1 = some (pc', st') ∧ S' = (pc', S.2.1, st', S.2.2.2))
  ∨ (∃ st', lda X S.2.2.2 ins S.2.2.1 = some st' ∧ S' = (S.1 + 1, S.2.1, st', S.2.2.2))
  ∨ (∃ st' w', sta S.2.2.2 ins S.2.2.1 = some (st', w') ∧ S' = (S.1 + 1, S.2.1, st', w'))
  ∨ (∃ u, ldk ins v = some u ∧ S' = (S.1 + len, S.2.1, u :: S.2.2.1, S.2.2.2))
  ∨ (∃ st', stk ins S.2.2.1 = some st' ∧ S' = (S.1 + 1, S.2.1, st', S.2.2.2))
  ∨ (∃ u r ls', S.2.2.1 = u :: r ∧ stl M.2.2.2.1 ins S.2.1 u = some ls' ∧ S' = (S.1 + len, ls', r, S.2.2.2))
  ∨ (∃ i st', ins = .getfield i ∧ ldf S.2.2.2 a b S.2.2.1 = some st' ∧ S' = (S.1 + 3, S.2.1, st', S.2.2.2))
  ∨ (∃ i st' w', ins = .putfield i ∧ stf S.2.2.2 (iniOf M) a b S.2.2.1 = some (st', w') ∧ S' = (S.1 + 3, S.2.1, st', w'))
  ∨ (∃ i n x, ins = .iinc i n ∧ lkp S.2.1 i = some (.int x) ∧ i < M.2.2.2.1 ∧ S' = (S.1 + 3, sto1 S.2.1 i (.int (x + Int32.ofInt n)), S.2.2.1, S.2.2.2))
set_option maxHeartbeats 2000000 in
theorem XW.fam {j : Nat} {M : mMt} {X : mX} {d mc ms : Nat} {Q : Option Value → mW → Prop} {S S' : mS} {pc0 len a b h : Nat} {ins : Instr} {v : Int} (hM : mt j = some M) (he : mcode j S.1 = some (pc0, ins, len, a, b, v, h)) (hp : pst M X ins len a b v S S') (K : XW j M X d mc ms Q S') : XW j M X d mc ms Q S := by
  intro D base xa p l e R s m args below meth c Z H locs cells slots ls cA hC hfr hlo hce hsl hH hL hl hret
  obtain ⟨hx, hb, hr, hml, hown, hts, hlk, hnm, hKn, hX⟩ := id hC
  obtain ⟨hcl, hini⟩ := mOK_at hM
  rw [hcl] at hown
  obtain ⟨pc, lv, st, w⟩ := S
  obtain ⟨hd, hlen, ho⟩ := row_ok hM he
  dsimp only at hH hl hd ⊢
  have plain : ∀ (pc' : Nat) (lv' : mL) (st' : List Value) (w' : mW) (H' : Heap) (locs' : List Loc) (ls' : Array Slot) (cA' : Nat → ClassId), S' = (pc', lv', st', w') → HR D base cA' w' s s.heap H' → (∀ q ∈ locs', base ≤ q.base) → lv_has ls' M.2.2.2.1 (trl base xa lv') → W p l e R s m args below meth c H' locs' cells slots Z (F0 m pc' ls' (st'.map (trv base xa))) := by
    intro pc' lv' st' w' H' locs' ls' cA' hS hH' hL' hl'
    subst hS
    exact K D base xa p l e R s m args below meth c Z H' locs' cells slots ls' cA' hC hfr hlo hce hsl hH' hL' hl' hret
  unfold pst at hp
  dsimp only at hp
  rcases hp with ⟨u, hs, e⟩ | ⟨pc', st', hs, e⟩ | ⟨st', hs, e⟩ | ⟨st', w', hs, e⟩ | ⟨u, hs, e⟩ | ⟨st', hs, e⟩ | ⟨u, r, ls', hst, hs, e⟩ | ⟨i, st', hi, hs, e⟩ | ⟨i, st', w', hi, hs, e⟩ | ⟨i, nn, x, hi, hx1, hlt, e⟩
  · exact rw_psh hx hb hd hlen hl hs (plain _ _ _ _ _ _ _ _ e hH hL hl)
  · exact rw_brn hx hb hd hlen ho hs (plain _ _ _ _ _ _ _ _ e hH hL hl)
  · exact rw_lda hx hb hH hX hd hlen hs (plain _ _ _ _ _ _ _ _ e hH hL hl)
  · exact rw_sta hx hb hH hL hd hlen hs (fun H' locs' hH' hL' => plain _ _ _ _ _ _ _ _ e hH' hL' hl)
  · exact rw_ldk hx hb hown hts hd hlen ho hs (plain _ _ _ _ _ _ _ _ e hH hL hl)
  · exact rw_stk hx hb hd hlen hs (plain _ _ _ _ _ _ _ _ e hH hL hl)
  · subst hst
    exact rw_stl hx hb hd hlen hl hs (fun lsB hB => plain _ _ _ _ _ _ _ _ e hH hL hB)
  · subst hi
    obtain rfl : len = 3 := by rcases hlen with q | q <;> simp [ilen] at q <;> exact q
    exact rw_ldf hx hb hown hts hKn.1 hH hd (of_decide_eq_true ho) hs (plain _ _ _ _ _ _ _ _ e hH hL hl)
  · subst hi
    obtain rfl : len = 3 := by rcases hlen with q | q <;> simp [ilen] at q <;> exact q
    refine rw_stf hx hb hown hts hKn.1 hH hL hd (of_decide_eq_true ho) (fun q => ?_) hs (fun H' locs' hH' hL' => plain _ _ _ _ _ _ _ _ e hH' hL' hl)
    have ha13 : a < 13 := by
      unfold stf at hs
      dsimp only at hs
      repeat' split at hs
      all_goals first | (cases hs; done) | exact fl13 (by assumption)
    rw [hnm (by rw [show M.2.2.2.2.2.2.2 = a from q]; exact ha13)]
    exact hini a q ha13
  · subst hi
    obtain rfl : len = 3 := by rcases hlen with q | q <;> simp [ilen] at q <;> exact q
    obtain ⟨kk, hkk⟩ := List.getElem?_of_mem (List.mem_map.mpr ⟨(i, Value.int x), lkp_mem hx1, rfl⟩ : (i, trv base xa (Value.int x)) ∈ trl base xa lv)
    exact lv_iinc hx hb hd hl hkk rfl hlt rfl (fun lsB hB => plain _ _ _ _ _ _ _ _ e hH hL (by rw [trl_sto1]; exact hB))
theorem pst_fresh {M : mMt} {X : mX} {ins : Instr} {len a b : Nat} {v : Int} {S S' : mS} (hp : pst M X ins len a b v S S') (hf : fresh S.2.2.2) : fresh S'.2.2.2 := by
  unfold pst at hp
  rcases hp with ⟨u, hs, e⟩ | ⟨pc', st', hs, e⟩ | ⟨st', hs, e⟩ | ⟨st', w', hs, e⟩ | ⟨u, hs, e⟩ | ⟨st', hs, e⟩ | ⟨u, r, ls', hst, hs, e⟩ | ⟨i, st', hi, hs, e⟩ | ⟨i, st', w', hi, hs, e⟩ | ⟨i, nn, x, hi, hx1, hlt, e⟩
  all_goals subst e
  all_goals first | exact hf | exact fresh_sta hf hs | exact fresh_stf hf hs
/-- a step by families, in a run with frames; nothing of the law's script -/
theorem XF.fam {dd mc ms : Nat} {Q : Option Value → mW → Prop} {j pc pc' : Nat} {ls ls' : mL} {st st' : List Value} {fs : List mFr} {w w' : mW} {M : mMt} {pc0 len a b h : Nat} {ins : Instr} {v : Int} (hM : mt j = some M) (he : mcode j pc = some (pc0, ins, len, a, b, v, h)) (hp : pst M none ins len a b v (pc, ls, st, w) (pc', ls', st', w')) (K : XF none dd mc ms Q (j, pc', ls', st') fs w') : XF none dd mc ms Q (j, pc, ls, st) fs w := by
  cases fs with
  | nil =>
    unfold XF at K ⊢
    intro hf M' hM'
    cases hM.symm.trans hM'
    exact XW.fam (S := (pc, ls, st, w)) hM he hp (K (pst_fresh hp hf) M hM)
  | cons f fs =>
    unfold XF at K ⊢
    intro hf M' hM'
    cases hM.symm.trans hM'
    exact XW.fam (S := (pc, ls, st, w)) hM he hp (K (pst_fresh hp hf) M hM)
/-- a call by contract, from any frame -/
theorem XF.callG {dd : Nat} {Q : Option Value → mW → Prop} {j pc : Nat} {ls : mL} {st : List Value} {fs : List mFr} {w : mW} {M Ma : mMt} {pc0 len a b h d' : Nat} {v : Int} {ins : Instr} {av rest : List Value} {Qc : Option Value → mW → Prop} (hM : mt j = some M) (he : mcode j pc = some (pc0, ins, len, a, b, v, h)) (hMa : mt a = some Ma) (ha : a < 371) (hb9 : ¬ b = 9) (hk : ckb ins Ma av w = true) (hst : st = av.reverse ++ rest) (hlen : av.length = Ma.2.2.2.2.2.2.1) (hcat : (rest.map fun v => v.category).sum ≤ 8)
    (T : fresh w → Tc a d' 0 0 av w Qc) (hd : d' + 1 + fs.length ≤ dd) (K : ∀ r w', Qc r w' → fresh w' ∧ XF none dd 0 0 Q (j, pc + 3, ls, r.toList ++ rest) fs w') : XF none dd 0 0 Q (j, pc, ls, st) fs w := by
  cases fs with
  | nil => exact XF.callT hM he hMa ha hb9 hk hst hlen hcat T (by simpa using hd) (Nat.le_refl _) (Nat.le_refl _) K
  | cons f fs =>
    unfold XF
    intro hf M' hM'
    cases hM.symm.trans hM'
    refine XW.call hM he hMa ha hb9 (ckb_ok hk) hst hlen hcat (T hf) (by simp only [List.length_cons] at hd; omega) (Nat.le_refl _) (Nat.le_refl _) (fun r w' hr => ?_)
    obtain ⟨h1, h2⟩ := K r w' hr
    exact XF.out h2 h1 hM
/-- an answer goes to the frame below, or nothing does -/
theorem XF.retG {dd : Nat} {Q : Option Value → mW → Prop} {j pc jf pf : Nat} {ls lf : mL} {r : Option Value} {sf : List Value} {fs : List mFr} {w : mW} {M : mMt} {pc0 len a b h : Nat} {u : Int} {ins : Instr} (hM : mt j = some M) (he : mcode j pc = some (pc0, ins, len, a, b, u, h)) (hr : rtb M ins r = true) (K : XF none dd 0 0 Q (jf, pf, lf, r.toList ++ sf) fs w) : XF none dd 0 0 Q (j, pc, ls, r.toList) ((jf, pf, lf, sf) :: fs) w := by
  unfold XF
  intro hf M' hM'
  cases hM.symm.trans hM'
  exact XW.ret (r := r) (rtb_ok hM he hr) ⟨hf, K⟩
/-- a call, run on -/
theorem XF.callI {dd : Nat} {Q : Option Value → mW → Prop} {j pc : Nat} {ls : mL} {st : List Value} {fs : List mFr} {w : mW} {M Ma : mMt} {pc0 len a b h : Nat} {v : Int} {ins : Instr} {av rest : List Value} (hdd : 41 ≤ dd) (hfs : fs.length < 40) (hM : mt j = some M) (he : mcode j pc = some (pc0, ins, len, a, b, v, h)) (hMa : mt a = some Ma) (ha : a < 371) (hb9 : ¬ b = 9) (hk : ckb ins Ma av w = true) (hst : st = av.reverse ++ rest) (hlen : av.length = Ma.2.2.2.2.2.2.1) (hcat : (rest.map fun v => v.category).sum ≤ 8) (hfit : (lg_sl av).length ≤ Ma.2.2.2.1)
    (K : XF none dd 0 0 Q (a, 0, lv_args 0 av, []) ((j, pc + 3, ls, rest) :: fs) w) : XF none dd 0 0 Q (j, pc, ls, st) fs w := by
  cases fs with
  | nil =>
    unfold XF at K ⊢
    intro hf M' hM'
    cases hM.symm.trans hM'
    refine XW.call (d' := dd - 1) (mc' := 0) (ms' := 0) hM he hMa ha hb9 (ckb_ok hk) hst hlen hcat (Tc.of Ma hMa hfit (K hf Ma hMa)) (by omega) (Nat.le_refl _) (Nat.le_refl _) (fun r w' hr => ?_)
    exact XF.out hr.2 hr.1 hM
  | cons f fs =>
    unfold XF at K ⊢
    intro hf M' hM'
    cases hM.symm.trans hM'
    simp only [List.length_cons] at hfs
    refine XW.call (d' := dd - ((f :: fs).length + 1)) (mc' := 0) (ms' := 0) hM he hMa ha hb9 (ckb_ok hk) hst hlen hcat (Tc.of Ma hMa hfit (K hf Ma hMa)) (by simp only [List.length_cons]; omega) (Nat.le_refl _) (Nat.le_refl _) (fun r w' hr => ?_)
    exact XF.out hr.2 hr.1 hM
